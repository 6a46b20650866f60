/** Orders in their course (promises 16 to 20): sent, placed, cancelled, packed, returned. */
public final class DaysTest {
    private DaysTest() {
    }

    public static void main(String[] args) {
        firstComeFirstServed();
        sentInParts();
        cancelled();
        placedOrCancelledWhole();
        placedByRulesOfTheDay();
        placedThingIsSentFirstToItsOwnWants();
        lastDayGoesOn();
        parcels();
        returns();
        returnsOfPlacedFirst();
        Check.finish();
    }

    /** So many things, codes from 1000 on, at 10, 20, ..; no POST. */
    private static PostHouse house(int... weights) {
        PostHouse house = new PostHouse();
        for (int i = 0; i < weights.length; i++) {
            house.thing(1000 + i, weights[i], 0, 1);
            house.price(i, 10 * (i + 1), 0, 999);
        }
        Check.rules(house, "post 0");
        return house;
    }

    private static void firstComeFirstServed() {
        PostHouse house = house(1, 1);
        Check.letter(house, "1000 x 3,1001 x 1,1000 x 2 sum 70");
        Check.letter(house, "1000 x 4 sum 40");
        house.coming(0, 1, 6);
        house.days(0);
        Check.due("nothing is sent ahead of the day", house.order(0, 4), 6);
        house.days(1);
        Check.dueCourse(house, 0, 0, 3, 0, 0, 0, 1, -1);
        Check.dueCourse(house, 0, 1, 0, 0, 0, 0, -1, -1);
        Check.dueCourse(house, 0, 2, 2, 0, 0, 0, 1, -1);
        Check.dueCourse(house, 1, 0, 1, 0, 0, 0, 1, -1);
        Check.due("LEFT of 0", house.order(0, 4), 1);
        Check.due("LEFT of 1", house.order(1, 4), 3);
        Check.due("stock(0)", house.stock(0), 0);
        Check.due("SENDINGS", house.count(4), 2);
        Check.dueSending(house, 0, 0, 1, 5, 1);
        Check.dueSending(house, 1, 1, 1, 1, 1);
    }

    private static void sentInParts() {
        PostHouse house = house(1);
        Check.letter(house, "1000 x 10 sum 100");
        house.coming(0, 1, 3);
        house.coming(0, 4, 20);
        house.days(2);
        Check.dueCourse(house, 0, 0, 3, 0, 0, 0, 1, -1);
        house.days(5);
        Check.dueCourse(house, 0, 0, 10, 0, 0, 0, 4, -1);
        Check.due("stock(0)", house.stock(0), 13);
        Check.due("SENDINGS", house.count(4), 2);
        Check.dueSending(house, 1, 0, 4, 7, 1);
        house.thing(2000, 1, 0, 1);
        Check.rules(house, "place 1000 by 2000");
        house.coming(1, 8, 5);
        house.days(30);
        Check.dueCourse(house, 0, 0, 10, 0, 0, 0, 4, -1);
        Check.due("SENDINGS then", house.count(4), 2);
    }

    private static void cancelled() {
        PostHouse house = house(1, 1);
        house.coming(0, 3, 2);
        house.days(1);
        Check.letter(house, "1000 x 5,1001 x 2 sum 90 money 97");
        house.days(10);
        Check.due("LEFT on the last day of waiting", house.order(0, 4), 5);
        Check.due("CREDIT yet", house.order(0, 3), 7);
        house.days(1);
        Check.dueCourse(house, 0, 0, 2, 0, 3, 0, 3, -1);
        Check.dueCourse(house, 0, 1, 0, 0, 2, 0, -1, -1);
        Check.due("LEFT", house.order(0, 4), 0);
        Check.due("CREDIT", house.order(0, 3), 7 + 30 + 40);
        Check.due("SENDINGS", house.count(4), 1);
        house.coming(0, 20, 9);
        house.days(20);
        Check.due("what is cancelled is not sent", house.stock(0), 9);
        Check.due("nor paid back twice", house.order(0, 3), 77);
        PostHouse quick = house(1);
        Check.rules(quick, "behind 0");
        Check.letter(quick, "1000 x 1 sum 10");
        quick.days(1);
        Check.due("BEHIND 0", quick.want(0, 0, 5), 1);
    }

    private static void placedOrCancelledWhole() {
        PostHouse house = house(1, 1);
        Check.rules(house, "behind 1;place 1000 by 1001");
        Check.letter(house, "1000 x 5 sum 50");
        Check.letter(house, "1000 x 3 sum 30");
        house.coming(0, 2, 1);
        house.coming(1, 1, 6);
        house.days(1);
        Check.due("not placed ahead of its day", house.order(0, 4), 5);
        house.days(1);
        Check.dueCourse(house, 0, 0, 1, 4, 0, 0, 2, 1);
        Check.dueCourse(house, 1, 0, 0, 0, 3, 0, -1, -1);
        Check.due("LEFT of 0", house.order(0, 4), 0);
        Check.due("LEFT of 1", house.order(1, 4), 0);
        Check.due("stock(1)", house.stock(1), 2);
        Check.due("CREDIT of 0", house.order(0, 3), 0);
        Check.due("CREDIT of 1", house.order(1, 3), 30);
        Check.due("SENDINGS", house.count(4), 1);
        Check.dueSending(house, 0, 0, 2, 5, 1);
        Check.letter(house, "1000 x 2 sum 20");
        house.days(2);
        Check.dueCourse(house, 2, 0, 0, 2, 0, 0, 4, 1);
        Check.due("just as many", house.stock(1), 0);
    }

    private static void placedByRulesOfTheDay() {
        PostHouse house = house(1, 1, 1);
        Check.rules(house, "behind 5;place 1000 by 1001");
        Check.letter(house, "1000 x 1 sum 10");
        Check.letter(house, "1001 x 1,1000 x 1 sum 30");
        house.coming(2, 2, 1);
        house.days(1);
        Check.rules(house, "behind 1;place 1000 by 1002;place 1001 by 1000");
        house.days(1);
        Check.dueCourse(house, 0, 0, 0, 1, 0, 0, 2, 2);
        Check.dueCourse(house, 1, 0, 0, 0, 1, 0, -1, -1);
        Check.dueCourse(house, 1, 1, 0, 0, 1, 0, -1, -1);
        Check.rules(house, "place 1000 by 1001");
        Check.due("the thing that came stays", house.want(0, 0, 8), 2);
        Check.due("back", house.back(0, 0, 1), true);
        Check.due("to that thing's stock", house.stock(2), 1);
    }

    private static void placedThingIsSentFirstToItsOwnWants() {
        PostHouse house = house(1, 1);
        Check.rules(house, "behind 0;place 1000 by 1001");
        Check.letter(house, "1001 x 1,1000 x 1,1001 x 1 sum 50");
        house.coming(1, 1, 2);
        house.days(1);
        Check.dueCourse(house, 0, 0, 1, 0, 0, 0, 1, -1);
        Check.dueCourse(house, 0, 1, 0, 1, 0, 0, 1, 1);
        Check.dueCourse(house, 0, 2, 0, 0, 1, 0, -1, -1);
        Check.dueSending(house, 0, 0, 1, 2, 1);
    }

    /** TODAY stays 999, yet a DAY is a DAY: what there is is sent. */
    private static void lastDayGoesOn() {
        PostHouse house = house(1);
        for (int i = 0; i < 10; i++) {
            house.days(i < 9 ? 100 : 98);
        }
        house.coming(0, 999, 1);
        Check.letter(house, "1000 x 1 sum 10");
        house.days(1);
        Check.letter(house, "1000 x 2 sum 20");
        Check.due("back on the last day", house.back(0, 0, 1), true);
        Check.due("days(100)", house.days(100), 999);
        Check.dueCourse(house, 1, 0, 1, 0, 0, 0, 999, -1);
        Check.dueSending(house, 1, 1, 999, 1, 1);
        Check.due("SENDINGS", house.count(4), 2);
        Check.due("LEFT waits", house.order(1, 4), 1);
    }

    private static void dueParcels(String letter, int parcels, int... weights) {
        PostHouse house = house(weights);
        for (int i = 0; i < weights.length; i++) {
            house.coming(i, 1, 999);
        }
        Check.due("letter " + letter, Check.letter(house, letter), 0);
        house.days(1);
        Check.due("PARCELS of " + letter, house.sending(0, 3), parcels);
    }

    private static void parcels() {
        dueParcels("1000 x 1 sum 10", 1, 2000);
        dueParcels("1000 x 2 sum 20", 2, 2000);
        dueParcels("1000 x 4 sum 40", 2, 1000);
        dueParcels("1000 x 4 sum 40", 4, 1001);
        dueParcels("1000 x 99 sum 990", 1, 20);
        dueParcels("1000 x 99 sum 990", 50, 667);
        dueParcels("1000 x 99,1001 x 99 sum 2970", 99, 1200, 800);
        dueParcels("1000 x 99,1001 x 99 sum 2970", 99, 800, 1200);
        dueParcels("1000 x 99,1001 x 99 sum 2970", 149, 801, 1200);
        // By falling weight into the first that has room: 1000+1000, 700+700+600, then 600 alone.
        dueParcels("1000 x 2,1001 x 2,1002 x 2 sum 120", 3, 600, 700, 1000);
        // The first that has room, not the fullest (two parcels), the emptiest or the last one (four).
        String eight = "1000x1,1001x1,1002x1,1003x1,1004x1,1005x1,1006x1,1007x1 sum 360";
        dueParcels(eight, 3, 150, 250, 650, 950, 450, 700, 650, 150);
        dueParcels(eight, 3, 100, 1300, 500, 250, 1350, 450, 500, 1300);
        // By falling weight, not by rising (four).
        dueParcels("1000x1,1001x1,1002x1,1003x1,1004x1 sum 150", 3, 500, 800, 1200, 1250, 1350);
        dueParcels("1000 x 99,1000 x 99,1000 x 99,1000 x 99,1000 x 99,1000 x 99,1000 x 99,1000 x 99 sum 7920",
                792, 2000);
        manyKindsOfPieces();
        oneSendingBehindAnother();
        // The things placed have weights of their own.
        PostHouse house = house(1, 1500);
        Check.rules(house, "behind 0;place 1000 by 1001");
        Check.letter(house, "1000 x 4 sum 40");
        house.coming(0, 1, 1);
        house.coming(1, 1, 3);
        house.days(1);
        Check.dueSending(house, 0, 0, 1, 4, 3);
    }

    /** Eight wants, of each one piece sent and one placed, no two of one weight. */
    private static void manyKindsOfPieces() {
        PostHouse house = new PostHouse();
        StringBuilder places = new StringBuilder("post 0;behind 0");
        StringBuilder lines = new StringBuilder();
        for (int i = 0; i < 16; i++) {
            house.thing(1000 + i, 1001 + i, 0, 1);
            house.coming(i, 1, 1);
        }
        for (int i = 0; i < 8; i++) {
            house.price(i, 1, 0, 999);
            places.append(";place ").append(1000 + i).append(" by ").append(1008 + i);
            lines.append(i == 0 ? "" : ",").append(1000 + i).append("x2");
        }
        Check.rules(house, places.toString());
        Check.letter(house, lines + "sum16");
        house.days(1);
        Check.dueSending(house, 0, 0, 1, 16, 16);
        Check.dueCourse(house, 0, 7, 1, 1, 0, 0, 1, 15);
    }

    private static void oneSendingBehindAnother() {
        PostHouse house = house(1500, 400);
        Check.letter(house, "1000 x 2 sum 20");
        Check.letter(house, "1000 x 1 sum 10");
        Check.letter(house, "1001 x 5 sum 100");
        Check.letter(house, "1000 x 1,1001 x 1 sum 30");
        house.coming(0, 1, 9);
        house.coming(1, 1, 9);
        house.days(1);
        Check.dueSending(house, 0, 0, 1, 2, 2);
        Check.dueSending(house, 1, 1, 1, 1, 1);
        Check.dueSending(house, 2, 2, 1, 5, 1);
        Check.dueSending(house, 3, 3, 1, 2, 1);
    }

    private static void returns() {
        PostHouse house = house(1, 1);
        Check.letter(house, "1000 x 5,1001 x 1 sum 70");
        Check.due("back ahead of anything came", house.back(0, 0, 1), false);
        house.coming(0, 1, 4);
        house.days(1);
        Check.due("more than came", house.back(0, 0, 5), false);
        Check.due("of another want", house.back(0, 1, 1), false);
        Check.due("nothing happened", house.order(0, 3), 0);
        Check.due("some", house.back(0, 0, 3), true);
        Check.due("stock(0)", house.stock(0), 3);
        Check.due("CREDIT", house.order(0, 3), 30);
        Check.dueCourse(house, 0, 0, 4, 0, 0, 3, 1, -1);
        Check.due("LEFT", house.order(0, 4), 2);
        Check.due("more than is left", house.back(0, 0, 2), false);
        Check.due("the last", house.back(0, 0, 1), true);
        Check.due("no more", house.back(0, 0, 1), false);
        Check.due("count(8)", house.count(8), 40);
    }

    private static void returnsOfPlacedFirst() {
        PostHouse house = house(1, 1);
        Check.rules(house, "behind 0;place 1000 by 1001");
        Check.letter(house, "1000 x 6 sum 60");
        house.coming(0, 1, 4);
        house.coming(1, 1, 2);
        house.days(1);
        Check.dueCourse(house, 0, 0, 4, 2, 0, 0, 1, 1);
        Check.due("three", house.back(0, 0, 3), true);
        Check.due("stock(1)", house.stock(1), 2);
        Check.due("stock(0)", house.stock(0), 1);
        Check.due("CREDIT by the want's price", house.order(0, 3), 30);
        Check.due("three more", house.back(0, 0, 3), true);
        Check.due("stock(1) then", house.stock(1), 2);
        Check.due("stock(0) then", house.stock(0), 4);
        Check.dueCourse(house, 0, 0, 4, 2, 0, 6, 1, 1);
        Check.due("no more", house.back(0, 0, 1), false);
    }
}
