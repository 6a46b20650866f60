/** The bounds that part 1 of the terms and the promises 1 and 4 to 8 name, a test for each sentence. */
public final class BookBoundsTest {
    private static final Class<IndexOutOfBoundsException> INDEX = IndexOutOfBoundsException.class;
    private static final Class<IllegalArgumentException> ARGUMENT = IllegalArgumentException.class;
    private static final Class<UnsupportedOperationException> UNSUPPORTED = UnsupportedOperationException.class;

    private BookBoundsTest() {
    }

    public static void main(String[] args) {
        terms();
        promises();
        Check.finish();
    }

    private static void terms() {
        Check.sentence("THINGS (at most 30, numbered from 0 on)", BookBoundsTest::thirtyThings);
        Check.sentence("a CODE of four digits (0000 to 9999", BookBoundsTest::codes);
        Check.sentence("no two alike", BookBoundsTest::noTwoCodesAlike);
        Check.sentence("WEIGHT (1 to 2000)", BookBoundsTest::weights);
        Check.sentence("a STREET (0 to 7)", BookBoundsTest::streets);
        Check.sentence("a PLACE in it (1 to 20)", BookBoundsTest::places);
        Check.sentence("STOCK (0 at first)", BookBoundsTest::stockAtFirst);
        Check.sentence("PRICES (at most 4 each)", BookBoundsTest::fourPrices);
        Check.sentence("MONEY (1 to 10000)", BookBoundsTest::moneys);
        Check.sentence("from a day to a day (0 to 999", BookBoundsTest::daysOfPrices);
        Check.sentence("both too", BookBoundsTest::firstAndLastDayOfAPrice);
        Check.sentence("of those that hold on a day the one told last counts", BookBoundsTest::toldLast);
        Check.sentence("without one the THING is not SOLD on that day", BookBoundsTest::notSold);
        Check.sentence("TODAY is 0 at first", BookBoundsTest::todayAtFirst);
        Check.sentence("COMING (at most 60)", BookBoundsTest::sixtyComings);
        Check.sentence("so many (1 to 10000) of a THING", BookBoundsTest::piecesComing);
        Check.sentence("on a day behind TODAY", BookBoundsTest::behindToday);
        Check.sentence("(999 at most)", BookBoundsTest::upToTheLastDay);
    }

    private static void promises() {
        Check.sentence("No THINGS; the RULES as told.", BookBoundsTest::newObject);
        Check.sentence("A THING: its number.", BookBoundsTest::numberOfAThing);
        Check.sentence("IllegalArgumentException: a number is none, or", BookBoundsTest::oneNumberIsNone);
        Check.sentence("there is one of that CODE", BookBoundsTest::codeAgainInAFullBook);
        Check.sentence("UnsupportedOperationException: there are 30.", BookBoundsTest::fullBook);
        Check.sentence("A PRICE of a THING: how many it has.", BookBoundsTest::pricesAreCounted);
        Check.sentence("IllegalArgumentException: MONEY or a day is none", BookBoundsTest::priceThatIsNone);
        Check.sentence("or the second one is ahead of the first", BookBoundsTest::secondDayAhead);
        Check.sentence("UnsupportedOperationException: it has 4.", BookBoundsTest::aFifthPrice);
        Check.sentence("The MONEY of a THING on a day", BookBoundsTest::costsOfEachThing);
        Check.sentence("NONE if it is not SOLD then.", BookBoundsTest::costsOnDaysThatAreNone);
        Check.sentence("COMING: how many are told and did not come yet.", BookBoundsTest::comingsAreCounted);
        Check.sentence("IllegalArgumentException: a number is none; UnsupportedOperationException",
                BookBoundsTest::comingThatIsNone);
        Check.sentence("UnsupportedOperationException: there are 60.", BookBoundsTest::roomAgainBehindOneCame);
        Check.sentence("STOCK of a THING.", BookBoundsTest::stockGrowsAndFalls);
        Check.sentence("IndexOutOfBoundsException: there is no such THING", BookBoundsTest::noSuchThing);
    }

    private static void wrongThings(int[]... wrong) {
        for (int[] w : wrong) {
            PostHouse house = new PostHouse();
            Check.dueThrow("thing(" + w[0] + ", " + w[1] + ", " + w[2] + ", " + w[3] + ")", ARGUMENT,
                    () -> house.thing(w[0], w[1], w[2], w[3]));
            Check.due("THINGS", house.count(1), 0);
        }
    }

    private static void rightThings(int[]... right) {
        for (int[] r : right) {
            Check.due("thing(" + r[0] + ", " + r[1] + ", " + r[2] + ", " + r[3] + ")",
                    new PostHouse().thing(r[0], r[1], r[2], r[3]), 0);
        }
    }

    private static PostHouse fullHouse() {
        PostHouse house = new PostHouse();
        for (int i = 0; i < 30; i++) {
            house.thing(100 + i, 1, 0, 1);
        }
        return house;
    }

    private static void thirtyThings() {
        PostHouse house = new PostHouse();
        for (int i = 0; i < 30; i++) {
            Check.due("thing " + i, house.thing(i, 1, 0, 1), i);
        }
        Check.dueThrow("a 31st", UNSUPPORTED, () -> house.thing(30, 1, 0, 1));
        Check.due("THINGS", house.count(1), 30);
        Check.due("stock(29)", house.stock(29), 0);
        Check.dueThrow("stock(30)", INDEX, () -> house.stock(30));
    }

    private static void codes() {
        rightThings(new int[] {0, 1, 0, 1}, new int[] {9999, 1, 0, 1});
        wrongThings(new int[] {-1, 1, 0, 1}, new int[] {10000, 1, 0, 1},
                new int[] {Made.LEAST, 1, 0, 1}, new int[] {Made.MOST, 1, 0, 1});
    }

    private static void noTwoCodesAlike() {
        PostHouse house = new PostHouse();
        house.thing(0, 1, 0, 1);
        house.thing(9999, 1, 0, 1);
        Check.dueThrow("the first one's code", ARGUMENT, () -> house.thing(0, 2, 1, 2));
        Check.dueThrow("the last one's code", ARGUMENT, () -> house.thing(9999, 2, 1, 2));
        Check.due("a code unlike in one digit", house.thing(9998, 1, 0, 1), 2);
        Check.due("all else may be alike", house.thing(1, 1, 0, 1), 3);
    }

    private static void weights() {
        rightThings(new int[] {5, 1, 0, 1}, new int[] {5, 2000, 0, 1});
        wrongThings(new int[] {5, 0, 0, 1}, new int[] {5, 2001, 0, 1}, new int[] {5, -1, 0, 1},
                new int[] {5, Made.LEAST, 0, 1}, new int[] {5, Made.MOST, 0, 1});
    }

    private static void streets() {
        rightThings(new int[] {5, 1, 0, 1}, new int[] {5, 1, 7, 1});
        wrongThings(new int[] {5, 1, -1, 1}, new int[] {5, 1, 8, 1},
                new int[] {5, 1, Made.LEAST, 1}, new int[] {5, 1, Made.MOST, 1});
    }

    private static void places() {
        rightThings(new int[] {5, 1, 0, 1}, new int[] {5, 1, 0, 20});
        wrongThings(new int[] {5, 1, 0, 0}, new int[] {5, 1, 0, 21}, new int[] {5, 1, 0, -1},
                new int[] {5, 1, 0, Made.LEAST}, new int[] {5, 1, 0, Made.MOST});
    }

    private static void stockAtFirst() {
        PostHouse house = new PostHouse();
        house.thing(1, 1, 0, 1);
        Check.due("of the first thing", house.stock(0), 0);
        house.coming(0, 1, 7);
        house.days(1);
        house.thing(2, 1, 0, 1);
        Check.due("of a thing told later", house.stock(1), 0);
    }

    private static void fourPrices() {
        PostHouse house = Made.house(0, 0);
        for (int i = 1; i <= 4; i++) {
            Check.due("price " + i, house.price(0, i, i, i), i);
        }
        Check.dueThrow("a 5th", UNSUPPORTED, () -> house.price(0, 5, 5, 5));
        Check.due("the 4th holds", house.costs(0, 4), 4);
        Check.due("the 5th does not", house.costs(0, 5), -1);
        Check.due("another thing has its own", house.price(1, 9, 0, 9), 1);
    }

    private static void moneys() {
        PostHouse house = Made.house(0);
        for (int money : new int[] {0, -1, 10001, Made.LEAST, Made.MOST}) {
            Check.dueThrow("price(0, " + money + ", 0, 9)", ARGUMENT, () -> house.price(0, money, 0, 9));
        }
        Check.due("price(0, 1, 0, 0)", house.price(0, 1, 0, 0), 1);
        Check.due("price(0, 10000, 1, 1)", house.price(0, 10000, 1, 1), 2);
        Check.due("costs(0, 0)", house.costs(0, 0), 1);
        Check.due("costs(0, 1)", house.costs(0, 1), 10000);
    }

    private static void daysOfPrices() {
        PostHouse house = Made.house(0);
        int[][] wrong = {{-1, 5}, {-2, -1}, {5, 1000}, {1000, 1000}, {Made.LEAST, 0}, {0, Made.MOST},
            {Made.MOST, Made.MOST}, {Made.LEAST, Made.LEAST}};
        for (int[] w : wrong) {
            Check.dueThrow("price(0, 5, " + w[0] + ", " + w[1] + ")", ARGUMENT, () -> house.price(0, 5, w[0], w[1]));
        }
        Check.due("price(0, 5, 0, 0)", house.price(0, 5, 0, 0), 1);
        Check.due("price(0, 6, 999, 999)", house.price(0, 6, 999, 999), 2);
        Check.due("price(0, 7, 0, 999)", house.price(0, 7, 0, 999), 3);
        Check.due("costs(0, 0)", house.costs(0, 0), 7);
        Check.due("costs(0, 999)", house.costs(0, 999), 7);
    }

    private static void firstAndLastDayOfAPrice() {
        PostHouse house = Made.house(0);
        house.price(0, 5, 10, 12);
        house.price(0, 6, 20, 20);
        int[][] due = {{9, -1}, {10, 5}, {11, 5}, {12, 5}, {13, -1}, {19, -1}, {20, 6}, {21, -1}};
        for (int[] d : due) {
            Check.due("costs(0, " + d[0] + ")", house.costs(0, d[0]), d[1]);
        }
    }

    private static void toldLast() {
        PostHouse house = Made.house(0);
        house.price(0, 10, 0, 999);
        house.price(0, 30, 5, 8);
        house.price(0, 20, 8, 9);
        int[][] due = {{4, 10}, {5, 30}, {7, 30}, {8, 20}, {9, 20}, {10, 10}};
        for (int[] d : due) {
            Check.due("costs(0, " + d[0] + ")", house.costs(0, d[0]), d[1]);
        }
        house.price(0, 15, 0, 999);
        Check.due("the last of four", house.costs(0, 8), 15);
    }

    private static void notSold() {
        PostHouse house = Made.house(0, 15);
        Check.due("without any price", house.costs(0, 0), -1);
        house.price(0, 10, 1, 1);
        Check.due("ahead of its price", house.costs(0, 0), -1);
        Check.due("a letter ahead", Check.letter(house, "1000 x 1,1001 x 1 sum 25"), -2);
        house.days(1);
        Check.due("a letter on its day", Check.letter(house, "1000 x 1,1001 x 1 sum 25"), 0);
        house.days(1);
        Check.due("a letter behind", Check.letter(house, "1000 x 1,1001 x 1 sum 25"), -3);
    }

    private static void todayAtFirst() {
        PostHouse house = new PostHouse();
        Check.due("count(0)", house.count(0), 0);
        Check.due("days(0)", house.days(0), 0);
        Check.due("days(1)", house.days(1), 1);
    }

    private static PostHouse houseOfSixtyComings() {
        PostHouse house = Made.house(0, 0);
        for (int i = 0; i < 60; i++) {
            Check.due("coming " + i, house.coming(i % 2, 1 + i / 30, 1), i + 1);
        }
        return house;
    }

    private static void sixtyComings() {
        PostHouse house = houseOfSixtyComings();
        Check.dueThrow("a 61st", UNSUPPORTED, () -> house.coming(0, 1, 1));
        Check.dueThrow("a 61st on a day of its own", UNSUPPORTED, () -> house.coming(1, 9, 1));
        Check.due("pieces COMING", house.count(9), 60);
        house.days(2);
        Check.due("stock(0)", house.stock(0), 30);
        Check.due("stock(1)", house.stock(1), 30);
    }

    private static void piecesComing() {
        PostHouse house = Made.house(0);
        for (int many : new int[] {0, -1, 10001, Made.LEAST, Made.MOST}) {
            Check.dueThrow("coming(0, 1, " + many + ")", ARGUMENT, () -> house.coming(0, 1, many));
        }
        Check.due("coming(0, 1, 1)", house.coming(0, 1, 1), 1);
        Check.due("coming(0, 1, 10000)", house.coming(0, 1, 10000), 2);
        house.days(1);
        Check.due("stock(0)", house.stock(0), 10001);
    }

    private static void behindToday() {
        PostHouse house = Made.houseOnDay(5, 0);
        for (int day : new int[] {5, 4, 0, -1, Made.LEAST}) {
            Check.dueThrow("coming(0, " + day + ", 1) on day 5", ARGUMENT, () -> house.coming(0, day, 1));
        }
        Check.due("coming(0, 6, 1) on day 5", house.coming(0, 6, 1), 1);
        Check.dueThrow("coming(0, 0, 1) on day 0", ARGUMENT, () -> Made.house(0).coming(0, 0, 1));
        Check.due("coming(0, 1, 1) on day 0", Made.house(0).coming(0, 1, 1), 1);
    }

    private static void upToTheLastDay() {
        PostHouse house = Made.house(0);
        Check.dueThrow("coming(0, 1000, 1)", ARGUMENT, () -> house.coming(0, 1000, 1));
        Check.dueThrow("coming(0, most, 1)", ARGUMENT, () -> house.coming(0, Made.MOST, 1));
        Check.due("coming(0, 999, 3)", house.coming(0, 999, 3), 1);
        Made.goToDay(house, 998);
        Check.due("stock(0) a day ahead", house.stock(0), 0);
        house.days(1);
        Check.due("stock(0) on the last day", house.stock(0), 3);
        Check.dueThrow("on the last day no day is behind TODAY", ARGUMENT, () -> house.coming(0, 1000, 1));
        Check.dueThrow("nor is the last day", ARGUMENT, () -> house.coming(0, 999, 1));
    }

    private static void newObject() {
        PostHouse house = new PostHouse();
        for (int what = 0; what <= 9; what++) {
            Check.due("count(" + what + ")", house.count(what), 0);
        }
        Check.dueRules(house, 10, 50, 10000, 14);
        Check.due("fault()", house.fault(), -1);
        Check.due("end(1)", house.end(1), false);
        Check.due("walk()", house.walk(), 0);
        Check.dueThrow("stock(0)", INDEX, () -> house.stock(0));
        Check.dueThrow("doubt(0, 0)", INDEX, () -> house.doubt(0, 0));
        Check.dueThrow("order(0, 0)", INDEX, () -> house.order(0, 0));
        Check.dueThrow("sending(0, 0)", INDEX, () -> house.sending(0, 0));
        PostHouse other = Made.house(5);
        Check.due("another object has its own things", other.count(1), 1);
        Check.due("and leaves the first one alone", house.count(1), 0);
    }

    private static void numberOfAThing() {
        PostHouse house = new PostHouse();
        Check.due("the first", house.thing(9999, 1, 0, 1), 0);
        Check.dueThrow("a wrong one", ARGUMENT, () -> house.thing(10000, 1, 0, 1));
        Check.due("the second behind a wrong one", house.thing(0, 1, 0, 1), 1);
    }

    /** Each number wrong by itself, the others at their bounds. */
    private static void oneNumberIsNone() {
        wrongThings(new int[] {-1, 1, 0, 1}, new int[] {10000, 2000, 7, 20}, new int[] {0, 0, 0, 1},
                new int[] {9999, 2001, 7, 20}, new int[] {0, 1, -1, 1}, new int[] {9999, 2000, 8, 20},
                new int[] {0, 1, 0, 0}, new int[] {9999, 2000, 7, 21}, new int[] {-1, 0, -1, 0});
        rightThings(new int[] {0, 1, 0, 1}, new int[] {9999, 2000, 7, 20});
    }

    private static void codeAgainInAFullBook() {
        PostHouse house = fullHouse();
        Check.dueThrow("the first one's code", ARGUMENT, () -> house.thing(100, 1, 0, 1));
        Check.dueThrow("the last one's code", ARGUMENT, () -> house.thing(129, 1, 0, 1));
    }

    private static void fullBook() {
        PostHouse house = fullHouse();
        Check.dueThrow("a right 31st", UNSUPPORTED, () -> house.thing(99, 1, 0, 1));
        Check.dueThrow("once more", UNSUPPORTED, () -> house.thing(130, 2000, 7, 20));
        Check.dueThrow("a wrong 31st", ARGUMENT, () -> house.thing(99, 1, 0, 21));
        Check.due("THINGS", house.count(1), 30);
    }

    private static void pricesAreCounted() {
        PostHouse house = Made.house(0, 0);
        Check.due("the first of 0", house.price(0, 5, 0, 9), 1);
        Check.due("the first of 1", house.price(1, 5, 0, 9), 1);
        Check.due("the second of 0, like the first", house.price(0, 5, 0, 9), 2);
        Check.dueThrow("a wrong one", ARGUMENT, () -> house.price(0, 0, 0, 9));
        Check.due("the third of 0 behind a wrong one", house.price(0, 6, 0, 9), 3);
    }

    private static void priceThatIsNone() {
        PostHouse house = Made.house(0);
        int[][] wrong = {{0, 0, 999}, {10001, 0, 999}, {1, -1, 999}, {1, 0, 1000}, {10000, 1000, 1000}, {1, -1, -1}};
        for (int[] w : wrong) {
            Check.dueThrow("price(0, " + w[0] + ", " + w[1] + ", " + w[2] + ")", ARGUMENT,
                    () -> house.price(0, w[0], w[1], w[2]));
        }
        Check.due("no price came", house.costs(0, 0), -1);
        Check.due("a price at its bounds", house.price(0, 10000, 0, 999), 1);
    }

    private static void secondDayAhead() {
        PostHouse house = Made.house(0);
        Check.dueThrow("price(0, 5, 6, 5)", ARGUMENT, () -> house.price(0, 5, 6, 5));
        Check.dueThrow("price(0, 5, 999, 0)", ARGUMENT, () -> house.price(0, 5, 999, 0));
        Check.due("price(0, 5, 6, 6)", house.price(0, 5, 6, 6), 1);
    }

    private static void aFifthPrice() {
        PostHouse house = Made.house(0);
        for (int i = 0; i < 4; i++) {
            house.price(0, 7, 0, 9);
        }
        Check.dueThrow("a right one", UNSUPPORTED, () -> house.price(0, 8, 0, 9));
        Check.dueThrow("a wrong one", ARGUMENT, () -> house.price(0, 8, 9, 8));
        Check.due("costs(0, 5)", house.costs(0, 5), 7);
    }

    private static void costsOfEachThing() {
        PostHouse house = Made.houseOnDay(7, 1, 10000, 0);
        int[] due = {1, 10000, -1};
        for (int thing = 0; thing < due.length; thing++) {
            for (int day : new int[] {0, 7, 999}) {
                Check.due("costs(" + thing + ", " + day + ")", house.costs(thing, day), due[thing]);
            }
        }
    }

    private static void costsOnDaysThatAreNone() {
        PostHouse house = Made.house(5);
        for (int day : new int[] {-1, 1000, Made.LEAST, Made.MOST}) {
            Check.due("costs(0, " + day + ")", house.costs(0, day), -1);
        }
        Check.due("costs(0, 0)", house.costs(0, 0), 5);
        Check.due("costs(0, 999)", house.costs(0, 999), 5);
    }

    private static void comingsAreCounted() {
        PostHouse house = Made.house(0, 0);
        Check.due("the first", house.coming(0, 1, 9), 1);
        Check.due("of another thing", house.coming(1, 2, 9), 2);
        Check.due("like the first", house.coming(0, 1, 9), 3);
        house.days(1);
        Check.due("behind two that came", house.coming(0, 2, 9), 2);
        house.days(1);
        Check.due("behind all that came", house.coming(1, 3, 9), 1);
    }

    private static void comingThatIsNone() {
        PostHouse house = Made.houseOnDay(1, 0);
        int[][] wrong = {{1, 1}, {1000, 10000}, {2, 0}, {999, 10001}, {0, 0}};
        for (int[] w : wrong) {
            Check.dueThrow("coming(0, " + w[0] + ", " + w[1] + ")", ARGUMENT, () -> house.coming(0, w[0], w[1]));
        }
        Check.due("nothing is COMING", house.count(9), 0);
        Check.due("coming(0, 2, 1)", house.coming(0, 2, 1), 1);
        Check.due("coming(0, 999, 10000)", house.coming(0, 999, 10000), 2);
    }

    private static void roomAgainBehindOneCame() {
        PostHouse house = houseOfSixtyComings();
        Check.dueThrow("a wrong 61st", ARGUMENT, () -> house.coming(0, 0, 1));
        house.days(1);
        for (int i = 31; i <= 60; i++) {
            Check.due("coming " + i + " again", house.coming(0, 3, 1), i);
        }
        Check.dueThrow("a 61st again", UNSUPPORTED, () -> house.coming(0, 3, 1));
    }

    private static void stockGrowsAndFalls() {
        PostHouse house = Made.house(10, 10);
        Check.letter(house, "1000 x 4 sum 40");
        house.coming(0, 1, 3);
        house.coming(0, 2, 3);
        house.coming(1, 2, 5);
        Check.due("ahead", house.stock(0), 0);
        house.days(1);
        Check.due("all is sent", house.stock(0), 0);
        house.days(1);
        Check.due("less what is sent", house.stock(0), 2);
        Check.due("of another thing", house.stock(1), 5);
        house.back(0, 0, 1);
        Check.due("and what came back", house.stock(0), 3);
    }

    private static void noSuchThing() {
        for (int thing : new int[] {-1, 2, 29, 30, Made.LEAST, Made.MOST}) {
            PostHouse house = Made.house(5, 5);
            Check.dueThrow("price(" + thing + ", 5, 0, 9)", INDEX, () -> house.price(thing, 5, 0, 9));
            Check.dueThrow("costs(" + thing + ", 0)", INDEX, () -> house.costs(thing, 0));
            Check.dueThrow("coming(" + thing + ", 1, 1)", INDEX, () -> house.coming(thing, 1, 1));
            Check.dueThrow("stock(" + thing + ")", INDEX, () -> house.stock(thing));
            Check.dueThrow("instead(" + thing + ")", INDEX, () -> house.instead(thing));
            Check.dueThrow("pick(" + thing + ")", INDEX, () -> house.pick(thing));
            Check.dueThrow("foretold(" + thing + ", 0, 1, 1, 0)", INDEX, () -> house.foretold(thing, 0, 1, 1, 0));
        }
        for (int thing = 0; thing < 2; thing++) {
            Check.due("stock(" + thing + ")", Made.house(5, 5).stock(thing), 0);
        }
    }
}
