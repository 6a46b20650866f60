import java.util.NoSuchElementException;

/** The bounds that the parts 5 and 6 of the terms and the promises 21 to 24 name, a test for each sentence. */
public final class WalkForetoldBoundsTest {
    private static final Class<IndexOutOfBoundsException> INDEX = IndexOutOfBoundsException.class;
    private static final Class<IllegalArgumentException> ARGUMENT = IllegalArgumentException.class;
    private static final int SALES = 0;
    private static final int WHOLE = 1;
    private static final int BOUGHT = 2;

    private WalkForetoldBoundsTest() {
    }

    public static void main(String[] args) {
        walks();
        foretellings();
        counts();
        Check.finish();
    }

    private static void walks() {
        Check.sentence("WALK: at most 10 PICKS, THINGS that are told.", WalkForetoldBoundsTest::tenPicks);
        Check.sentence("STREETS lie beside one another, 6 steps apart", WalkForetoldBoundsTest::sixStepsApart);
        Check.sentence("each 21 steps long, its front at 0, its back at 21, a THING at its PLACE",
                WalkForetoldBoundsTest::lengthOfStreets);
        Check.sentence("all fronts lie on one lane, all backs on another one; one may go along STREETS and both lanes.",
                WalkForetoldBoundsTest::bothLanes);
        Check.sentence("WALK: the least steps from the front of STREET 0 by all PICKS back to it.",
                WalkForetoldBoundsTest::leastSteps);
        Check.sentence("A THING comes to the PICKS: how many there are", WalkForetoldBoundsTest::picksAreCounted);
        Check.sentence("NONE, and it does not come, if it is among them", WalkForetoldBoundsTest::pickedAlready);
        Check.sentence("or there are 10.", WalkForetoldBoundsTest::anEleventhPick);
        Check.sentence("WALK (0 without PICKS)", WalkForetoldBoundsTest::withoutPicks);
        Check.sentence("the PICKS are empty then.", WalkForetoldBoundsTest::emptyThen);
    }

    private static void foretellings() {
        Check.sentence("with a SHARE (1 to 1000, of a thousand)", WalkForetoldBoundsTest::shares);
        Check.sentence("SALES: MANY of all WANTS of it in ORDERS", WalkForetoldBoundsTest::sales);
        Check.sentence("that were made on the days A to A + 13", WalkForetoldBoundsTest::fourteenDays);
        Check.sentence("WHOLE: SALES times 1000 by SHARE, rounded up", WalkForetoldBoundsTest::whole);
        Check.sentence("to be BOUGHT, in lots of L (1 to 1000)", WalkForetoldBoundsTest::lots);
        Check.sentence("WHOLE less SALES and STOCK and what is COMING", WalkForetoldBoundsTest::lessWhatThereIs);
        Check.sentence("0 at least", WalkForetoldBoundsTest::zeroAtLeast);
        Check.sentence("rounded up to whole lots.", WalkForetoldBoundsTest::wholeLots);
        Check.sentence("IllegalArgumentException: a number is none (A: 0 to 999)", WalkForetoldBoundsTest::daysOfSales);
        Check.sentence("2 to be BOUGHT.", WalkForetoldBoundsTest::mostOfAll);
        Check.sentence("(A: 0 to 999); NoSuchElementException: another what.", WalkForetoldBoundsTest::noMoreForetold);
    }

    private static void counts() {
        Check.sentence("0 TODAY, 1 THINGS, 2 ORDERS, 3 DOUBTS that wait, 4 SENDINGS kept, 5 PICKS",
                WalkForetoldBoundsTest::countsOfAll);
        Check.sentence("6 LETTERS that were MENDED and became ORDERS at once", WalkForetoldBoundsTest::mendedAtOnce);
        Check.sentence("7 money of all ORDERS, 8 CREDIT of all", WalkForetoldBoundsTest::moneyAndCredit);
        Check.sentence("9 pieces that are COMING.", WalkForetoldBoundsTest::piecesComing);
        Check.sentence("NONE for another what.", WalkForetoldBoundsTest::noMoreCounts);
    }

    private static void dueWalk(int due, int[]... places) {
        PostHouse house = new PostHouse();
        StringBuilder way = new StringBuilder();
        for (int i = 0; i < places.length; i++) {
            house.thing(i, 1, places[i][0], places[i][1]);
            house.pick(i);
            way.append(' ').append(places[i][0]).append('/').append(places[i][1]);
        }
        Check.due("walk by" + way, house.walk(), due);
    }

    private static void tenPicks() {
        PostHouse house = Made.house(0, 0, 0, 0, 0, 0, 0, 0, 0, 0, 0);
        Check.dueThrow("pick(11), which is not told", INDEX, () -> house.pick(11));
        for (int i = 0; i < 10; i++) {
            Check.due("pick(" + i + ")", house.pick(i), i + 1);
        }
        Check.due("an 11th", house.pick(10), -1);
        Check.due("PICKS", house.count(5), 10);
        Check.due("one place, ten things", house.walk(), 2);
    }

    private static void sixStepsApart() {
        for (int street = 0; street <= 7; street++) {
            dueWalk(12 * street + 2, new int[] {street, 1});
        }
        dueWalk(12 * 3 + 2 * 3, new int[] {1, 1}, new int[] {2, 1}, new int[] {3, 1});
    }

    private static void lengthOfStreets() {
        for (int place = 1; place <= 20; place++) {
            dueWalk(2 * place, new int[] {0, place});
        }
        dueWalk(2 * 21 + 12, new int[] {0, 20}, new int[] {1, 20});
        dueWalk(2 * 21 + 12, new int[] {0, 12}, new int[] {1, 20});
        dueWalk(2 * 10 + 2 * 10 + 12, new int[] {0, 10}, new int[] {1, 10});
        dueWalk(2 * 21 + 12, new int[] {0, 11}, new int[] {1, 11});
    }

    private static void bothLanes() {
        dueWalk(2 * 21 + 12 * 7, new int[] {0, 20}, new int[] {7, 20});
        dueWalk(2 * 21 + 12 * 2 + 2, new int[] {0, 11}, new int[] {1, 1}, new int[] {2, 11});
        dueWalk(2 * 21 + 12 * 2 + 2, new int[] {0, 11}, new int[] {1, 20}, new int[] {2, 11});
        dueWalk(2 * 21 + 12 * 2 + 4, new int[] {0, 11}, new int[] {1, 20}, new int[] {1, 1}, new int[] {2, 11});
        dueWalk(2 * 21 + 4 * 10 + 12 * 3, new int[] {0, 11}, new int[] {1, 11}, new int[] {2, 11},
                new int[] {3, 11});
    }

    /** Ten picks at once, near both ends; the search over all orders stands in WalkTest. */
    private static void leastSteps() {
        int[][] ten = {{0, 5}, {1, 20}, {1, 2}, {2, 10}, {3, 1}, {3, 20}, {5, 7}, {5, 14}, {6, 3}, {7, 19}};
        dueWalk(WalkTest.least(ten), ten);
        int[][] eight = {{0, 20}, {1, 1}, {2, 20}, {3, 1}, {4, 20}, {5, 1}, {6, 20}, {7, 1}};
        dueWalk(WalkTest.least(eight), eight);
        int[][] last = {{7, 1}, {7, 20}};
        dueWalk(12 * 7 + 40, last);
        dueWalk(40, new int[] {0, 20}, new int[] {0, 1});
    }

    private static void picksAreCounted() {
        PostHouse house = Made.house(0, 0);
        Check.due("count(5)", house.count(5), 0);
        Check.due("the first", house.pick(1), 1);
        Check.due("the second", house.pick(0), 2);
        Check.due("count(5) then", house.count(5), 2);
    }

    private static void pickedAlready() {
        PostHouse house = Made.house(0, 0, 0);
        house.pick(0);
        Check.due("at once", house.pick(0), -1);
        house.pick(1);
        Check.due("the first again", house.pick(0), -1);
        Check.due("the last again", house.pick(1), -1);
        Check.due("PICKS", house.count(5), 2);
        Check.due("another", house.pick(2), 3);
    }

    private static void anEleventhPick() {
        PostHouse house = new PostHouse();
        for (int i = 0; i < 11; i++) {
            house.thing(i, 1, i < 10 ? 0 : 7, 1);
        }
        for (int i = 0; i < 10; i++) {
            house.pick(i);
        }
        Check.due("an 11th", house.pick(10), -1);
        Check.due("one of the ten", house.pick(9), -1);
        Check.dueThrow("no such thing", INDEX, () -> house.pick(11));
        Check.due("the 11th is not on the way", house.walk(), 2);
        Check.due("it may come then", house.pick(10), 1);
        Check.due("its way", house.walk(), 12 * 7 + 2);
    }

    private static void withoutPicks() {
        PostHouse house = new PostHouse();
        Check.due("of a new object", house.walk(), 0);
        house.thing(1, 1, 7, 20);
        Check.due("with a thing that is not picked", house.walk(), 0);
        house.pick(0);
        house.walk();
        Check.due("behind a walk", house.walk(), 0);
    }

    private static void emptyThen() {
        PostHouse house = new PostHouse();
        house.thing(1, 1, 7, 20);
        house.thing(2, 1, 0, 3);
        house.pick(0);
        Check.due("walk()", house.walk(), 84 + 40);
        Check.due("PICKS", house.count(5), 0);
        Check.due("pick(1)", house.pick(1), 1);
        Check.due("walk() without the first", house.walk(), 6);
        Check.due("pick(0) again", house.pick(0), 1);
    }

    private static void dueForetold(PostHouse house, int share, int lot, int what, int due) {
        Check.due("foretold(0, 0, " + share + ", " + lot + ", " + what + ")",
                house.foretold(0, 0, share, lot, what), due);
    }

    private static PostHouse houseOfSales(int many) {
        PostHouse house = Made.house(10, 10);
        Check.letter(house, "1000 x " + many + " sum " + 10 * many);
        return house;
    }

    private static void shares() {
        PostHouse house = houseOfSales(3);
        for (int share : new int[] {0, -1, 1001, Made.LEAST, Made.MOST}) {
            Check.dueThrow("a SHARE of " + share, ARGUMENT, () -> house.foretold(0, 0, share, 1, WHOLE));
        }
        dueForetold(house, 1, 1, WHOLE, 3000);
        dueForetold(house, 1000, 1, WHOLE, 3);
    }

    private static void sales() {
        PostHouse house = Made.house(10, 20);
        Check.rules(house, "behind 0;place 1001 by 1000");
        dueForetold(house, 1000, 1, SALES, 0);
        Check.letter(house, "1000 x 3,1001 x 50,1000 x 4 sum 1070");
        Check.letter(house, "1000 x 99 sum 990");
        dueForetold(house, 1000, 1, SALES, 106);
        Check.letter(house, "1000 x 5 sum 51");
        dueForetold(house, 1000, 1, SALES, 106);
        house.settle(0, true);
        dueForetold(house, 1000, 1, SALES, 111);
        house.coming(0, 1, 60);
        house.days(1);
        Check.due("PLACED of 1001 by 1000", house.want(0, 1, 4), 50);
        dueForetold(house, 1000, 1, SALES, 111);
        Check.due("back", house.back(0, 0, 2), true);
        dueForetold(house, 1000, 1, SALES, 111);
        Check.due("SALES of 1001", house.foretold(1, 0, 1000, 1, SALES), 50);
    }

    private static void fourteenDays() {
        PostHouse house = Made.houseOnDay(20, 10);
        Check.letter(house, "1000 x 7 sum 70");
        int[][] due = {{0, 0}, {5, 0}, {6, 0}, {7, 7}, {8, 7}, {19, 7}, {20, 7}, {21, 0}, {999, 0}};
        for (int[] d : due) {
            Check.due("SALES from day " + d[0], house.foretold(0, d[0], 1, 1, SALES), d[1]);
        }
        PostHouse last = Made.houseOnDay(999, 10);
        Check.letter(last, "1000 x 7 sum 70");
        Check.due("SALES from day 985", last.foretold(0, 985, 1, 1, SALES), 0);
        Check.due("SALES from day 986", last.foretold(0, 986, 1, 1, SALES), 7);
        Check.due("SALES from day 999", last.foretold(0, 999, 1, 1, SALES), 7);
    }

    private static void whole() {
        PostHouse house = houseOfSales(10);
        int[][] due = {{1000, 10}, {999, 11}, {500, 20}, {501, 20}, {499, 21}, {300, 34}, {3, 3334}, {1, 10000}};
        for (int[] d : due) {
            dueForetold(house, d[0], 1, WHOLE, d[1]);
        }
        dueForetold(Made.house(10), 1, 1, WHOLE, 0);
    }

    private static void lots() {
        PostHouse house = houseOfSales(1);
        for (int lot : new int[] {0, -1, 1001, Made.LEAST, Made.MOST}) {
            Check.dueThrow("lots of " + lot, ARGUMENT, () -> house.foretold(0, 0, 500, lot, BOUGHT));
            Check.dueThrow("lots of " + lot + ", where SALES are asked", ARGUMENT,
                    () -> house.foretold(0, 0, 500, lot, SALES));
        }
        dueForetold(house, 500, 1, BOUGHT, 1);
        dueForetold(house, 500, 1000, BOUGHT, 1000);
    }

    private static void lessWhatThereIs() {
        PostHouse house = houseOfSales(10);
        dueForetold(house, 100, 1, BOUGHT, 90);
        house.coming(0, 1, 17);
        house.coming(1, 1, 40);
        dueForetold(house, 100, 1, BOUGHT, 73);
        house.coming(0, 999, 20);
        dueForetold(house, 100, 1, BOUGHT, 53);
        house.days(1);
        Check.due("stock(0)", house.stock(0), 7);
        dueForetold(house, 100, 1, BOUGHT, 90 - 7 - 20);
        house.back(0, 0, 3);
        dueForetold(house, 100, 1, BOUGHT, 90 - 10 - 20);
        house.coming(0, 2, 5);
        dueForetold(house, 100, 1, BOUGHT, 90 - 10 - 25);
        house.days(1);
        dueForetold(house, 100, 1, BOUGHT, 90 - 15 - 20);
        Check.due("from a day on without SALES", house.foretold(0, 1, 100, 1, BOUGHT), 0);
        PostHouse full = houseOfSales(10);
        for (int i = 0; i < 60; i++) {
            full.coming(i % 2, 1 + i, 1);
        }
        dueForetold(full, 100, 1, BOUGHT, 90 - 30);
    }

    private static void zeroAtLeast() {
        PostHouse house = houseOfSales(10);
        dueForetold(house, 1000, 1, BOUGHT, 0);
        dueForetold(house, 1000, 1000, BOUGHT, 0);
        house.coming(0, 1, 9);
        dueForetold(house, 500, 1, BOUGHT, 1);
        house.coming(0, 1, 1);
        dueForetold(house, 500, 1, BOUGHT, 0);
        house.coming(0, 1, 1);
        dueForetold(house, 500, 1, BOUGHT, 0);
        house.coming(0, 1, 10000);
        dueForetold(house, 500, 1, BOUGHT, 0);
        dueForetold(house, 500, 1000, BOUGHT, 0);
    }

    private static void wholeLots() {
        PostHouse house = houseOfSales(10);
        int[][] due = {{1, 90}, {2, 90}, {4, 92}, {7, 91}, {89, 178}, {90, 90}, {91, 91}, {1000, 1000}};
        for (int[] d : due) {
            dueForetold(house, 100, d[0], BOUGHT, d[1]);
        }
        dueForetold(house, 100, 1000, WHOLE, 100);
    }

    private static void daysOfSales() {
        PostHouse house = houseOfSales(5);
        for (int from : new int[] {-1, 1000, Made.LEAST, Made.MOST}) {
            Check.dueThrow("from day " + from, ARGUMENT, () -> house.foretold(0, from, 1, 1, SALES));
        }
        Check.due("from day 0", house.foretold(0, 0, 1, 1, SALES), 5);
        Check.due("from day 999", house.foretold(0, 999, 1, 1, SALES), 0);
    }

    private static void mostOfAll() {
        PostHouse house = Made.house(1);
        for (int i = 0; i < 60; i++) {
            Check.letter(house, "1000x99" + ",1000x99".repeat(7) + "sum792");
        }
        dueForetold(house, 1, 1000, SALES, 47520);
        dueForetold(house, 1, 1000, WHOLE, 47520000);
        dueForetold(house, 1, 1000, BOUGHT, 47473000);
        dueForetold(house, 1, 1, BOUGHT, 47472480);
    }

    private static void noMoreForetold() {
        PostHouse house = Made.house(10);
        for (int what : new int[] {-1, 3, Made.LEAST, Made.MOST}) {
            Check.dueThrow("what " + what, NoSuchElementException.class, () -> house.foretold(0, 0, 1, 1, what));
        }
    }

    private static void countsOfAll() {
        PostHouse house = Made.houseOnDay(3, 10, 20);
        house.coming(0, 4, 1);
        Check.letter(house, "1000 x 1 sum 10");
        Check.letter(house, "1001 x 1 sum 20");
        Check.letter(house, "1000 x 1 sum 11");
        Check.letter(house, "1000 x 1 sum 11");
        Check.letter(house, "1000 x 1 sum 11");
        Check.letter(house, "1000 x 1 sum 11");
        house.settle(1, false);
        house.days(1);
        house.pick(0);
        int[] due = {4, 2, 2, 3, 1, 1};
        for (int what = 0; what < due.length; what++) {
            Check.due("count(" + what + ")", house.count(what), due[what]);
        }
        house.settle(0, true);
        Check.due("ORDERS behind one is taken", house.count(2), 3);
        Check.due("DOUBTS that wait", house.count(3), 2);
    }

    private static void mendedAtOnce() {
        PostHouse house = Made.house(10);
        Check.letter(house, "1000 x 1 sum 10");
        Check.due("plain", house.count(6), 0);
        Check.letter(house, "1001 x 1 sum 10");
        Check.due("mended", house.count(6), 1);
        Check.letter(house, "1001 x 1 sum 10 money 9");
        Check.due("mended, but in doubt", house.count(6), 1);
        Check.rules(house, "free 0");
        house.price(0, 9, 0, 999);
        Check.due("taken", house.settle(0, true), 2);
        Check.due("mended, but not at once", house.count(6), 1);
        Check.letter(house, "1001 x 1 sum 9");
        Check.due("mended again", house.count(6), 2);
    }

    private static void moneyAndCredit() {
        PostHouse house = Made.house(10);
        Check.rules(house, "post 5");
        Check.letter(house, "1000 x 2 sum 20 money 30");
        Check.letter(house, "1000 x 1 sum 10 money 999999");
        Check.letter(house, "1000 x 1 sum 11 money 700");
        Check.due("money, not of doubts", house.count(7), 1000029);
        Check.due("CREDIT, not of doubts", house.count(8), 5 + 999984);
        house.settle(0, true);
        Check.due("money of what is taken, too", house.count(7), 1000729);
        Check.due("CREDIT of it, too", house.count(8), 5 + 999984 + 685);
        house.days(11);
        Check.due("CREDIT of all that is cancelled", house.count(8), 5 + 999984 + 685 + 40);
        Check.due("money stays", house.count(7), 1000729);
    }

    private static void piecesComing() {
        PostHouse house = Made.house(10, 10);
        house.coming(0, 1, 10000);
        house.coming(1, 2, 3);
        house.coming(0, 2, 4);
        Check.due("of all", house.count(9), 10007);
        house.days(1);
        Check.due("without what came", house.count(9), 7);
        house.days(1);
        Check.due("behind all came", house.count(9), 0);
    }

    private static void noMoreCounts() {
        PostHouse house = Made.house(10);
        for (int what : new int[] {-1, 10, Made.LEAST, Made.MOST}) {
            Check.due("count(" + what + ")", house.count(what), -1);
        }
    }
}
