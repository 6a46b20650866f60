/** Houses that the tests of bounds begin with. */
final class Made {
    static final int LEAST = Integer.MIN_VALUE;
    static final int MOST = Integer.MAX_VALUE;

    private Made() {
    }

    /** Things with the codes 1000, 1001, .., light ones, at these prices on all days (0: without one); no POST. */
    static PostHouse house(int... prices) {
        PostHouse house = new PostHouse();
        for (int i = 0; i < prices.length; i++) {
            house.thing(1000 + i, 1, 0, 1);
            if (prices[i] > 0) {
                house.price(i, prices[i], 0, 999);
            }
        }
        Check.rules(house, "post 0");
        return house;
    }

    /** The same on a later day. */
    static PostHouse houseOnDay(int day, int... prices) {
        PostHouse house = house(prices);
        goToDay(house, day);
        return house;
    }

    static void goToDay(PostHouse house, int day) {
        for (int i = 0; i < 10; i++) {
            house.days(Math.min(100, day - house.count(0)));
        }
        Check.due("TODAY", house.count(0), day);
    }
}
