/** Promises 1 and 4 to 8: a new object, thing, price, costs, coming, stock. */
public final class BookTest {
    private static final Class<IndexOutOfBoundsException> INDEX = IndexOutOfBoundsException.class;
    private static final Class<IllegalArgumentException> ARGUMENT = IllegalArgumentException.class;
    private static final Class<UnsupportedOperationException> UNSUPPORTED = UnsupportedOperationException.class;
    private static final int LEAST = Integer.MIN_VALUE;
    private static final int MOST = Integer.MAX_VALUE;

    private BookTest() {
    }

    public static void main(String[] args) {
        newObject();
        things();
        prices();
        pricesToldLastCount();
        comings();
        sixtyComings();
        Check.finish();
    }

    private static void newObject() {
        PostHouse house = new PostHouse();
        for (int what = 0; what <= 9; what++) {
            Check.due("count(" + what + ") of a new object", house.count(what), 0);
        }
        Check.due("BEHIND", house.says(0), 10);
        Check.due("POST", house.says(1), 50);
        Check.due("FREE", house.says(2), 10000);
        Check.due("BACK", house.says(3), 14);
        Check.due("fault() ahead of any text", house.fault(), -1);
        Check.due("walk() of a new object", house.walk(), 0);
        Check.dueThrow("stock(0) without things", INDEX, () -> house.stock(0));
        Check.dueThrow("order(0, 0) without orders", INDEX, () -> house.order(0, 0));
        Check.dueThrow("doubt(0, 0) without doubts", INDEX, () -> house.doubt(0, 0));
        Check.dueThrow("sending(0, 0) without sendings", INDEX, () -> house.sending(0, 0));
    }

    private static void things() {
        PostHouse house = new PostHouse();
        int[][] wrong = {
            {-1, 1, 0, 1}, {10000, 1, 0, 1}, {0, 0, 0, 1}, {0, 2001, 0, 1}, {0, 1, -1, 1}, {0, 1, 8, 1},
            {0, 1, 0, 0}, {0, 1, 0, 21}, {LEAST, 1, 0, 1}, {0, MOST, 0, 1}, {0, 1, MOST, 1}, {0, 1, 0, LEAST},
        };
        for (int[] w : wrong) {
            Check.dueThrow("thing(" + w[0] + ", " + w[1] + ", " + w[2] + ", " + w[3] + ")", ARGUMENT,
                    () -> house.thing(w[0], w[1], w[2], w[3]));
        }
        Check.due("THINGS behind wrong ones", house.count(1), 0);
        Check.due("thing(0, 1, 0, 1)", house.thing(0, 1, 0, 1), 0);
        Check.due("thing(9999, 2000, 7, 20)", house.thing(9999, 2000, 7, 20), 1);
        Check.dueThrow("a code twice", ARGUMENT, () -> house.thing(9999, 5, 5, 5));
        for (int i = 2; i < 30; i++) {
            Check.due("thing " + i, house.thing(100 + i, 1, 0, 1), i);
        }
        Check.dueThrow("a 31st thing", UNSUPPORTED, () -> house.thing(5000, 1, 0, 1));
        Check.dueThrow("a code twice, of a 31st", ARGUMENT, () -> house.thing(9999, 1, 0, 1));
        Check.dueThrow("a wrong weight of a 31st", ARGUMENT, () -> house.thing(5000, 0, 0, 1));
        Check.due("THINGS", house.count(1), 30);
        Check.due("stock(29)", house.stock(29), 0);
        Check.due("instead(29)", house.instead(29), -1);
        Check.dueThrow("stock(30)", INDEX, () -> house.stock(30));
        Check.dueThrow("stock(-1)", INDEX, () -> house.stock(-1));
        Check.dueThrow("stock(least)", INDEX, () -> house.stock(LEAST));
    }

    private static void prices() {
        PostHouse house = new PostHouse();
        house.thing(1, 1, 0, 1);
        int[][] wrong = {
            {0, 0, 9}, {10001, 0, 9}, {5, -1, 9}, {5, 0, 1000}, {5, 6, 5}, {5, 1000, 1000}, {LEAST, 0, 9},
            {5, LEAST, 0}, {5, 0, MOST}, {5, -2, -1},
        };
        for (int[] w : wrong) {
            String call = w[0] + ", " + w[1] + ", " + w[2] + ")";
            Check.dueThrow("price(0, " + call, ARGUMENT, () -> house.price(0, w[0], w[1], w[2]));
            Check.dueThrow("price(1, " + call, INDEX, () -> house.price(1, w[0], w[1], w[2]));
        }
        Check.dueThrow("price(-1, ..)", INDEX, () -> house.price(-1, 5, 0, 9));
        Check.due("costs without a price", house.costs(0, 0), -1);
        Check.due("price 1", house.price(0, 1, 0, 0), 1);
        Check.due("price 2", house.price(0, 10000, 999, 999), 2);
        Check.due("price 3", house.price(0, 7, 5, 6), 3);
        Check.due("price 4", house.price(0, 8, 6, 7), 4);
        Check.dueThrow("a 5th price", UNSUPPORTED, () -> house.price(0, 9, 0, 999));
        Check.dueThrow("a wrong 5th price", ARGUMENT, () -> house.price(0, 0, 0, 999));
        int[][] due = {{0, 1}, {1, -1}, {4, -1}, {5, 7}, {6, 8}, {7, 8}, {8, -1}, {998, -1}, {999, 10000},
            {1000, -1}, {-1, -1}, {LEAST, -1}, {MOST, -1}};
        for (int[] d : due) {
            Check.due("costs(0, " + d[0] + ")", house.costs(0, d[0]), d[1]);
        }
        Check.dueThrow("costs(1, 0)", INDEX, () -> house.costs(1, 0));
        Check.dueThrow("costs(-1, 0)", INDEX, () -> house.costs(-1, 0));
    }

    private static void pricesToldLastCount() {
        PostHouse house = new PostHouse();
        house.thing(1, 1, 0, 1);
        house.thing(2, 1, 0, 1);
        house.price(0, 10, 0, 999);
        house.price(0, 20, 100, 200);
        house.price(0, 5, 150, 300);
        Check.due("costs(0, 99)", house.costs(0, 99), 10);
        Check.due("costs(0, 100)", house.costs(0, 100), 20);
        Check.due("costs(0, 150)", house.costs(0, 150), 5);
        Check.due("costs(0, 300)", house.costs(0, 300), 5);
        Check.due("costs(0, 301)", house.costs(0, 301), 10);
        Check.due("costs(1, 150)", house.costs(1, 150), -1);
    }

    private static void comings() {
        PostHouse house = new PostHouse();
        house.thing(1, 1, 0, 1);
        house.thing(2, 1, 0, 1);
        house.days(5);
        int[][] wrong = {{5, 1}, {4, 1}, {1000, 1}, {6, 0}, {6, 10001}, {-1, 1}, {LEAST, 1}, {MOST, 1}, {6, LEAST}};
        for (int[] w : wrong) {
            String call = w[0] + ", " + w[1] + ")";
            Check.dueThrow("coming(0, " + call, ARGUMENT, () -> house.coming(0, w[0], w[1]));
            Check.dueThrow("coming(2, " + call, INDEX, () -> house.coming(2, w[0], w[1]));
        }
        Check.due("coming tomorrow", house.coming(0, 6, 1), 1);
        Check.due("coming tomorrow again", house.coming(0, 6, 10000), 2);
        Check.due("coming on the last day", house.coming(1, 999, 7), 3);
        Check.due("coming of another", house.coming(1, 6, 3), 4);
        Check.due("count(9)", house.count(9), 10011);
        Check.due("stock(0) ahead", house.stock(0), 0);
        house.days(1);
        Check.due("stock(0)", house.stock(0), 10001);
        Check.due("stock(1)", house.stock(1), 3);
        Check.due("count(9) behind", house.count(9), 7);
        Check.due("coming behind some came", house.coming(0, 7, 2), 2);
        house.days(1);
        Check.due("stock(0) behind two more", house.stock(0), 10003);
        for (int i = 0; i < 10; i++) {
            house.days(100);
        }
        Check.due("stock(1) on the last day", house.stock(1), 10);
        house.days(1);
        Check.due("stock(1) comes once", house.stock(1), 10);
        Check.dueThrow("coming behind the last day", ARGUMENT, () -> house.coming(0, 1000, 1));
    }

    private static void sixtyComings() {
        PostHouse house = new PostHouse();
        house.thing(1, 1, 0, 1);
        for (int i = 1; i <= 60; i++) {
            Check.due("coming " + i, house.coming(0, i, i), i);
        }
        Check.dueThrow("a 61st coming", UNSUPPORTED, () -> house.coming(0, 1, 1));
        Check.dueThrow("a wrong 61st coming", ARGUMENT, () -> house.coming(0, 0, 1));
        house.days(1);
        Check.due("coming in the place of one that came", house.coming(0, 2, 100), 60);
        house.days(1);
        Check.due("stock", house.stock(0), 103);
        Check.due("count(9)", house.count(9), 1827);
    }
}
