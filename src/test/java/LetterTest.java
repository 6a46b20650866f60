/** Letters in their course (promises 12, 14 and 15): read, mended, in doubt, settled. */
public final class LetterTest {
    private LetterTest() {
    }

    public static void main(String[] args) {
        plain();
        mended();
        mendingsOfKnownLines();
        noMending();
        dueMoney();
        settles();
        settlesMendedByItsMending();
        settlesWithThingsToldLater();
        settlesByRulesOfTheDay();
        Check.finish();
    }

    /** Things 1000, 1001, 2000 and 0007 cost 10, 20, 30 and 40; 5000 is sold from day 5 on, 5001 never. */
    private static PostHouse house() {
        PostHouse house = new PostHouse();
        int[] codes = {1000, 1001, 2000, 7};
        for (int i = 0; i < codes.length; i++) {
            house.thing(codes[i], 1, 0, 1);
            house.price(i, 10 * (i + 1), 0, 999);
        }
        house.thing(5000, 1, 0, 1);
        house.price(4, 50, 5, 999);
        house.thing(5001, 1, 0, 1);
        Check.rules(house, "post 0");
        return house;
    }

    private static void plain() {
        PostHouse house = house();
        house.days(3);
        Check.due("letter", Check.letter(house, "1000 x 2,0007 x 1,1000 x 3 sum 90 money 100"), 0);
        Check.due("fault()", house.fault(), -1);
        Check.dueOrder(house, 0, 3, 3, 100, 10, 6, 0);
        Check.dueWant(house, 0, 0, 0, 2, 10, 0, 0, 0, 0, -1, -1);
        Check.dueWant(house, 0, 1, 3, 1, 40, 0, 0, 0, 0, -1, -1);
        Check.dueWant(house, 0, 2, 0, 3, 10, 0, 0, 0, 0, -1, -1);
        Check.due("a second letter", Check.letter(house, "2000 x 1 sum 30"), 1);
        Check.due("its money", house.order(1, 2), 30);
        Check.due("its CREDIT", house.order(1, 3), 0);
        Check.due("count(6)", house.count(6), 0);
        Check.due("count(7)", house.count(7), 130);
        Check.due("count(8)", house.count(8), 10);
    }

    private static void mended() {
        PostHouse house = house();
        Check.due("an unknown code", Check.letter(house, "1003 x 2 sum 40"), 0);
        Check.dueWant(house, 0, 0, 1, 2, 20);
        Check.due("count(6)", house.count(6), 1);
        Check.due("a first digit", Check.letter(house, "3000 x 1,1001 x 1 sum 50 money 60"), 1);
        Check.dueWant(house, 1, 0, 2, 1, 30);
        Check.dueWant(house, 1, 1, 1, 1, 20);
        Check.due("leading zeros", Check.letter(house, "1007 x 1 sum 40"), 2);
        Check.dueWant(house, 2, 0, 3, 1, 40);
        Check.due("a line behind", Check.letter(house, "1000 x 1,0107 x 2 sum 90"), 3);
        Check.dueWant(house, 3, 1, 3, 2, 40);
        Check.due("count(6) behind", house.count(6), 4);
        Check.due("two digits unlike", Check.letter(house, "1011 x 1 sum 10"), -2);
        Check.dueDoubt(house, 0, 1, 0, 1, 0, 10, 10);
        Check.due("no thing sold today", Check.letter(house, "5002 x 1 sum 50"), -3);
        Check.dueDoubt(house, 1, 1, 0, 1, 0, 50, 50);
        house.days(5);
        Check.due("a thing sold today", Check.letter(house, "5002 x 1 sum 50"), 4);
        Check.dueWant(house, 4, 0, 4, 1, 50);
        Check.due("a code of a thing that is not sold", Check.letter(house, "5001 x 1 sum 50"), 5);
        Check.dueWant(house, 5, 0, 4, 1, 50);
    }

    private static void mendingsOfKnownLines() {
        PostHouse house = house();
        Check.due("a known code that was meant otherwise", Check.letter(house, "1000 x 1,2000 x 1 sum 50"), 0);
        Check.dueWant(house, 0, 0, 1, 1, 20);
        Check.dueWant(house, 0, 1, 2, 1, 30);
        Check.due("two lines that may be wrong", Check.letter(house, "1000 x 1,1000 x 1 sum 30"), -2);
        Check.dueDoubt(house, 0, 1, 2, 2, 2, 30, 30);
        Check.due("two things for one line", Check.letter(house, "1002 x 2,1000 x 1 sum 30"), 1);
        house.thing(1009, 1, 0, 1);
        house.price(6, 10, 0, 999);
        Check.due("now two", Check.letter(house, "1002 x 2,2000 x 1 sum 50"), -3);
        Check.dueDoubt(house, 1, 1, 2, 2, 1, 50, 50);
        Check.due("a plain one has no mendings", Check.letter(house, "1000 x 1 sum 10"), 2);
        Check.dueWant(house, 2, 0, 0, 1, 10);
        Check.due("plain and money below due", Check.letter(house, "1000 x 1 sum 10 money 9"), -4);
        Check.dueDoubt(house, 2, 1, 0, 1, 1, 10, 9);
    }

    private static void noMending() {
        PostHouse house = house();
        Check.due("two unknown lines", Check.letter(house, "1003 x 1,1004 x 1 sum 20"), -2);
        Check.dueDoubt(house, 0, 1, 0, 2, 0, 20, 20);
        Check.due("a wrong sum", Check.letter(house, "1003 x 1,0007 x 1 sum 55 money 999"), -3);
        Check.dueDoubt(house, 1, 1, 0, 2, 1, 55, 999);
        Check.due("a wrong sum of known lines", Check.letter(house, "0007 x 1,2000 x 1 sum 71"), -4);
        Check.dueDoubt(house, 2, 1, 0, 2, 2, 71, 71);
        Check.due("the same code is no mending", Check.letter(house, "0007 x 1 sum 41"), -5);
        Check.dueDoubt(house, 3, 1, 0, 1, 1, 41, 41);
        Check.due("count(3)", house.count(3), 4);
        Check.due("count(2)", house.count(2), 0);
        Check.due("count(6)", house.count(6), 0);
    }

    private static void dueMoney() {
        PostHouse house = house();
        Check.rules(house, "post 5;free 30");
        Check.due("below FREE without POST", Check.letter(house, "1001 x 1 sum 20"), -2);
        Check.dueDoubt(house, 0, 1, 0, 1, 1, 20, 20);
        Check.due("money just below", Check.letter(house, "1001 x 1 sum 20 money 24"), -3);
        Check.due("money just enough", Check.letter(house, "1001 x 1 sum 20 money 25"), 0);
        Check.due("CREDIT", house.order(0, 3), 0);
        Check.due("POST", house.order(0, 5), 5);
        Check.due("as much as FREE", Check.letter(house, "2000 x 1 sum 30"), 1);
        Check.due("no POST", house.order(1, 5), 0);
        Check.due("money below", Check.letter(house, "2000 x 1 sum 30 money 29"), -4);
        Check.due("mended, money below", Check.letter(house, "2009 x 1 sum 30 money 29"), -5);
        Check.dueDoubt(house, 3, 1, 1, 1, 1, 30, 29);
        Check.due("count(6)", house.count(6), 0);
        Check.due("mended, money above", Check.letter(house, "2009 x 1 sum 30 money 31"), 2);
        Check.due("CREDIT of it", house.order(2, 3), 1);
        Check.due("count(6) then", house.count(6), 1);
    }

    private static void settles() {
        PostHouse house = house();
        Check.letter(house, "1003 x 1,0007 x 2,5000 x 1 sum 999 money 100");
        Check.letter(house, "9999 x 1 sum 999");
        Check.letter(house, "0007 x 2 sum 80 money 79");
        Check.due("taken", house.settle(0, true), 0);
        Check.due("WANTS", house.order(0, 1), 1);
        Check.due("money", house.order(0, 2), 100);
        Check.due("CREDIT", house.order(0, 3), 20);
        Check.dueWant(house, 0, 0, 3, 2, 40);
        Check.dueDoubt(house, 0, 0, 0, 3, 1, 999, 100);
        Check.dueThrow("settled twice", IllegalStateException.class, () -> house.settle(0, true));
        Check.dueThrow("settled twice, away", IllegalStateException.class, () -> house.settle(0, false));
        Check.due("no line is known", house.settle(1, true), -1);
        Check.due("it waits on", house.doubt(1, 0), 1);
        Check.due("money below due", house.settle(2, true), -1);
        Check.due("it waits on, too", house.doubt(2, 0), 1);
        Check.due("count(3)", house.count(3), 2);
        Check.due("thrown away", house.settle(1, false), -1);
        Check.dueDoubt(house, 1, 0, 0, 1, 0, 999, 999);
        Check.due("count(3) then", house.count(3), 1);
        Check.due("the next number", Check.letter(house, "9998 x 1 sum 1"), -5);
        Check.due("the number of another stays", house.doubt(2, 5), 79);
        Check.due("count(2)", house.count(2), 1);
        Check.due("count(7)", house.count(7), 100);
    }

    private static void settlesMendedByItsMending() {
        PostHouse house = new PostHouse();
        house.thing(1000, 1, 0, 1);
        house.price(0, 10, 0, 3);
        house.price(0, 5, 4, 9);
        Check.due("mended, money below due", Check.letter(house, "1001 x 1 sum 10 money 59"), -2);
        Check.dueDoubt(house, 0, 1, 1, 1, 1, 10, 59);
        house.thing(1001, 1, 0, 1);
        house.price(1, 1, 0, 9);
        Check.due("it can not be taken yet", house.settle(0, true), -1);
        house.days(4);
        Check.due("taken", house.settle(0, true), 0);
        Check.dueWant(house, 0, 0, 0, 1, 5);
        Check.due("CREDIT", house.order(0, 3), 4);
        Check.due("the day", house.order(0, 0), 4);
        Check.due("count(6): not at once", house.count(6), 0);
    }

    private static void settlesWithThingsToldLater() {
        PostHouse house = house();
        Check.letter(house, "5000 x 1,8888 x 1 sum 7 money 200");
        Check.due("none is known", house.settle(0, true), -1);
        house.thing(8888, 1, 0, 1);
        house.price(6, 60, 5, 5);
        house.days(5);
        Check.due("taken", house.settle(0, true), 0);
        Check.due("both are known", house.order(0, 1), 2);
        Check.due("CREDIT", house.order(0, 3), 90);
        Check.dueDoubt(house, 0, 0, 0, 2, 0, 7, 200);
        Check.dueWant(house, 0, 1, 6, 1, 60);
    }

    private static void settlesByRulesOfTheDay() {
        PostHouse house = house();
        Check.letter(house, "1000 x 1,9876 x 1 sum 10 money 25");
        Check.rules(house, "post 16;free 11");
        Check.due("POST is too much", house.settle(0, true), -1);
        Check.rules(house, "post 15");
        Check.due("just enough", house.settle(0, true), 0);
        Check.due("POST", house.order(0, 5), 15);
        Check.letter(house, "1000 x 1,9876 x 1 sum 10 money 10");
        Check.due("POST again", house.settle(1, true), -1);
        Check.rules(house, "free 10");
        Check.due("FREE", house.settle(1, true), 1);
        Check.due("no POST", house.order(1, 5), 0);
    }
}
