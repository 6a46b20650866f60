import java.util.NoSuchElementException;

/** The bounds that part 4 of the terms and the promises 16 to 20 name, a test for each sentence. */
public final class DayBoundsTest {
    private static final Class<IndexOutOfBoundsException> INDEX = IndexOutOfBoundsException.class;
    private static final Class<IllegalArgumentException> ARGUMENT = IllegalArgumentException.class;
    private static final Class<NoSuchElementException> ELEMENT = NoSuchElementException.class;
    private static final int CREDIT = 3;
    private static final int LEFT = 4;

    private DayBoundsTest() {
    }

    public static void main(String[] args) {
        aDay();
        sendings();
        returns();
        promises();
        Check.finish();
    }

    private static void aDay() {
        Check.sentence("A DAY: TODAY is one more (999 at most)", DayBoundsTest::lastDay);
        Check.sentence("what is COMING TODAY comes to its STOCK", DayBoundsTest::comesOnItsDay);
        Check.sentence("Then each ORDER, by numbers", DayBoundsTest::ordersByNumbers);
        Check.sentence("each of its WANTS, in order", DayBoundsTest::wantsInOrder);
        Check.sentence("LEFT is MANY less what was SENT, PLACED and CANCELLED", DayBoundsTest::left);
        Check.sentence("(a) as many as there are of LEFT are SENT from STOCK.", DayBoundsTest::asManyAsThereAre);
        Check.sentence("(b) If LEFT is not 0 then", DayBoundsTest::nothingIsLeft);
        Check.sentence("and TODAY is more than BEHIND days after the ORDER was made", DayBoundsTest::behind);
        Check.sentence("if the RULES tell a THING in its PLACE", DayBoundsTest::thingInItsPlace);
        Check.sentence("and of that there are as many as LEFT, these are PLACED, from that STOCK",
                DayBoundsTest::asManyAsLeft);
        Check.sentence("else LEFT is CANCELLED, and CREDIT is more by LEFT times PRICE.", DayBoundsTest::cancelled);
    }

    private static void sendings() {
        Check.sentence("Behind all WANTS of an ORDER, if something was SENT or PLACED TODAY: a SENDING",
                DayBoundsTest::oneSendingADay);
        Check.sentence("(at most 300 are kept, numbered from 0 on)", DayBoundsTest::threeHundredSendings);
        Check.sentence("ORDER, day, how many pieces, and PARCELS", DayBoundsTest::piecesOfASending);
        Check.sentence("the pieces by falling WEIGHT", DayBoundsTest::fallingWeight);
        Check.sentence("each into the first PARCEL", DayBoundsTest::firstParcel);
        Check.sentence("in which no more than 2000 is then", DayBoundsTest::fullParcel);
        Check.sentence("else into a new one.", DayBoundsTest::newParcels);
    }

    private static void returns() {
        Check.sentence("RETURNS of a WANT: pieces that came", DayBoundsTest::piecesThatCame);
        Check.sentence("at most BACK days after something of that WANT came last", DayBoundsTest::backInTime);
        Check.sentence("at most as many as SENT and PLACED less RETURNED", DayBoundsTest::noMoreThanCame);
        Check.sentence("first of what was PLACED (to that THING's STOCK; the THING that came), then of SENT",
                DayBoundsTest::placedFirst);
        Check.sentence("CREDIT is more by each one's PRICE (that of the WANT).", DayBoundsTest::priceOfTheWant);
    }

    private static void promises() {
        Check.sentence("So many DAYS: TODAY.", DayBoundsTest::soManyDays);
        Check.sentence("IllegalArgumentException: not 0 to 100.", DayBoundsTest::noSuchDays);
        Check.sentence("Of an ORDER what 0 the day it was made, 1 WANTS, 2 money, 3 CREDIT,"
                + " 4 pieces LEFT of all WANTS, 5 POST that it paid.", DayBoundsTest::ofAnOrder);
        Check.sentence("5 POST that it paid. NoSuchElementException: another what.", DayBoundsTest::ofAnOrderNoMore);
        Check.sentence("Of a WANT what 0 THING, 1 MANY, 2 PRICE, 3 SENT, 4 PLACED, 5 CANCELLED, 6 RETURNED",
                DayBoundsTest::ofAWant);
        Check.sentence("7 the day on which something came last (NONE)", DayBoundsTest::dayItCame);
        Check.sentence("8 the THING that was PLACED (NONE).", DayBoundsTest::thingThatWasPlaced);
        Check.sentence("(NONE). NoSuchElementException: another what.", DayBoundsTest::ofAWantNoMore);
        Check.sentence("RETURNS: true; false, and nothing happens, if they may not be.", DayBoundsTest::mayNotBe);
        Check.sentence("IllegalArgumentException: many is not 1 to 99.", DayBoundsTest::noSuchMany);
        Check.sentence("Of a SENDING what 0 ORDER, 1 day, 2 pieces, 3 PARCELS.", DayBoundsTest::ofASending);
        Check.sentence("3 PARCELS. NoSuchElementException: another what.", DayBoundsTest::ofASendingNoMore);
        Check.sentence("there is no such THING, ORDER, WANT, DOUBT, SENDING.", DayBoundsTest::noSuchNumbers);
    }

    private static void lastDay() {
        PostHouse house = Made.house(10);
        house.coming(0, 999, 5);
        Check.due("a day", house.days(1), 1);
        Made.goToDay(house, 998);
        Check.letter(house, "1000 x 2 sum 20");
        Check.due("to the last", house.days(1), 999);
        Check.dueCourse(house, 0, 0, 2, 0, 0, 0, 999, -1);
        Check.due("stock(0)", house.stock(0), 3);
        Check.due("no further", house.days(1), 999);
        Check.due("however many", house.days(100), 999);
        Check.due("count(0)", house.count(0), 999);
        Check.due("what came comes no second time", house.stock(0), 3);
        Check.letter(house, "1000 x 1 sum 10");
        Check.due("a DAY on it", house.days(1), 999);
        Check.dueCourse(house, 1, 0, 1, 0, 0, 0, 999, -1);
        Check.dueSending(house, 1, 1, 999, 1, 1);
    }

    private static void comesOnItsDay() {
        PostHouse house = Made.house(10, 10);
        Check.letter(house, "1000 x 1 sum 10");
        house.coming(0, 2, 3);
        house.coming(1, 3, 4);
        house.coming(0, 3, 5);
        int[][] due = {{0, 0, 12}, {0, 0, 12}, {2, 0, 9}, {7, 4, 0}, {7, 4, 0}};
        for (int day = 0; day < due.length; day++) {
            Check.due("stock(0) on day " + day, house.stock(0), due[day][0]);
            Check.due("stock(1) on day " + day, house.stock(1), due[day][1]);
            Check.due("pieces COMING on day " + day, house.count(9), due[day][2]);
            house.days(1);
        }
        Check.due("sent on the day that it came", house.want(0, 0, 7), 2);
        PostHouse leap = Made.house(10);
        leap.coming(0, 2, 3);
        leap.days(5);
        Check.due("in a run of days, too", leap.stock(0), 3);
    }

    private static void ordersByNumbers() {
        PostHouse house = Made.house(10);
        Check.letter(house, "1000 x 3 sum 30");
        Check.letter(house, "1000 x 1 sum 10");
        Check.letter(house, "1000 x 2 sum 20");
        house.coming(0, 1, 5);
        house.days(1);
        int[] due = {3, 1, 1};
        for (int i = 0; i < due.length; i++) {
            Check.due("SENT of " + i, house.want(i, 0, 3), due[i]);
            Check.dueSending(house, i, i, 1, due[i], 1);
        }
        Check.due("stock(0)", house.stock(0), 0);
    }

    private static void wantsInOrder() {
        PostHouse house = Made.house(10, 10);
        Check.rules(house, "behind 0;place 1001 by 1000");
        Check.letter(house, "1000 x 2,1001 x 2,1000 x 2 sum 60");
        house.coming(0, 1, 5);
        house.days(1);
        Check.dueCourse(house, 0, 0, 2, 0, 0, 0, 1, -1);
        Check.dueCourse(house, 0, 1, 0, 2, 0, 0, 1, 0);
        Check.dueCourse(house, 0, 2, 1, 0, 1, 0, 1, -1);
    }

    private static void left() {
        PostHouse house = Made.house(10, 10);
        Check.letter(house, "1000 x 9,1001 x 5 sum 140");
        Check.due("of all", house.order(0, LEFT), 14);
        house.coming(0, 1, 4);
        house.days(1);
        Check.due("less SENT", house.order(0, LEFT), 10);
        house.back(0, 0, 3);
        Check.due("not more by RETURNS", house.order(0, LEFT), 10);
        house.back(0, 0, 1);
        Check.rules(house, "behind 1;place 1000 by 1001");
        house.coming(1, 2, 3);
        house.days(1);
        Check.dueCourse(house, 0, 0, 8, 1, 0, 4, 2, 1);
        Check.dueCourse(house, 0, 1, 2, 0, 3, 0, 2, -1);
        Check.due("less PLACED and CANCELLED", house.order(0, LEFT), 0);
        house.days(50);
        Check.due("never below 0", house.order(0, LEFT), 0);
    }

    private static void asManyAsThereAre() {
        for (int there = 1; there <= 5; there++) {
            PostHouse house = Made.house(10);
            Check.letter(house, "1000 x 3 sum 30");
            house.coming(0, 2, there);
            house.days(1);
            Check.dueCourse(house, 0, 0, 0, 0, 0, 0, -1, -1);
            house.days(1);
            int sent = Math.min(there, 3);
            Check.dueCourse(house, 0, 0, sent, 0, 0, 0, 2, -1);
            Check.due("STOCK of " + there, house.stock(0), there - sent);
            Check.due("LEFT of " + there, house.order(0, LEFT), 3 - sent);
        }
    }

    private static void nothingIsLeft() {
        PostHouse house = Made.house(10, 10);
        Check.rules(house, "behind 0;place 1000 by 1001");
        Check.letter(house, "1000 x 3 sum 30");
        house.coming(0, 1, 3);
        house.coming(1, 1, 3);
        house.days(1);
        Check.dueCourse(house, 0, 0, 3, 0, 0, 0, 1, -1);
        Check.due("the other thing stays", house.stock(1), 3);
        Check.due("CREDIT", house.order(0, CREDIT), 0);
        house.back(0, 0, 3);
        house.days(5);
        Check.dueCourse(house, 0, 0, 3, 0, 0, 3, 1, -1);
        Check.due("what came back stays", house.stock(0), 3);
    }

    private static void behind() {
        for (int behind : new int[] {0, 1, 10, 99}) {
            PostHouse house = Made.houseOnDay(3, 10);
            Check.rules(house, "behind " + behind);
            Check.letter(house, "1000 x 1 sum 10");
            house.days(behind);
            Check.due("LEFT on day " + behind + " of " + behind, house.order(0, LEFT), 1);
            house.days(1);
            Check.due("CANCELLED a day behind " + behind, house.want(0, 0, 5), 1);
        }
        PostHouse house = Made.house(10);
        Check.letter(house, "1000 x 1 sum 10");
        house.days(10);
        Check.due("BEHIND 10 at first", house.order(0, LEFT), 1);
        house.days(1);
        Check.due("11 days after", house.order(0, LEFT), 0);
        PostHouse changed = Made.house(10);
        Check.letter(changed, "1000 x 1 sum 10");
        changed.days(5);
        Check.rules(changed, "behind 5");
        Check.due("rules alone do nothing", changed.order(0, LEFT), 1);
        changed.days(1);
        Check.due("by the RULES of the day", changed.order(0, LEFT), 0);
        behindOnTheLastDay();
    }

    private static void behindOnTheLastDay() {
        PostHouse house = Made.houseOnDay(998, 10);
        Check.rules(house, "behind 1");
        Check.letter(house, "1000 x 1 sum 10");
        house.days(100);
        Check.due("no day is more than 1 behind 998", house.order(0, LEFT), 1);
        Check.rules(house, "behind 0");
        house.days(1);
        Check.due("999 is more than 0 behind 998", house.order(0, LEFT), 0);
        Check.letter(house, "1000 x 1 sum 10");
        house.days(100);
        Check.due("999 is no more than 0 behind 999", house.order(1, LEFT), 1);
    }

    private static void thingInItsPlace() {
        PostHouse house = Made.house(10, 20, 30);
        Check.rules(house, "behind 0;place 1001 by 1000");
        Check.letter(house, "1000 x 1 sum 10");
        Check.letter(house, "1001 x 1 sum 20");
        house.coming(2, 1, 9);
        house.days(1);
        Check.dueCourse(house, 0, 0, 0, 0, 1, 0, -1, -1);
        Check.dueCourse(house, 1, 0, 0, 0, 1, 0, -1, -1);
        Check.letter(house, "1000 x 1 sum 10");
        Check.rules(house, "place 1000 by 1002");
        house.days(1);
        Check.dueCourse(house, 2, 0, 0, 1, 0, 0, 2, 2);
        Check.due("from its STOCK", house.stock(2), 8);
        Check.letter(house, "1001 x 1 sum 20");
        house.days(1);
        Check.dueCourse(house, 3, 0, 0, 0, 1, 0, -1, -1);
        Check.due("no place of a place", house.stock(2), 8);
    }

    private static void asManyAsLeft() {
        for (int there = 2; there <= 4; there++) {
            PostHouse house = Made.house(10, 20);
            Check.rules(house, "behind 0;place 1000 by 1001");
            Check.letter(house, "1000 x 5 sum 50");
            house.coming(0, 1, 2);
            house.coming(1, 1, there);
            house.days(1);
            boolean placed = there >= 3;
            Check.dueCourse(house, 0, 0, 2, placed ? 3 : 0, placed ? 0 : 3, 0, 1, placed ? 1 : -1);
            Check.due("STOCK of " + there, house.stock(1), placed ? there - 3 : there);
            Check.due("CREDIT with " + there, house.order(0, CREDIT), placed ? 0 : 30);
            Check.dueSending(house, 0, 0, 1, placed ? 5 : 2, 1);
        }
    }

    private static void cancelled() {
        PostHouse house = Made.house(7, 10000);
        Check.rules(house, "behind 0");
        Check.letter(house, "1000 x 99,1001 x 2 sum 20693 money 20700");
        house.price(0, 1, 1, 999);
        house.coming(0, 1, 1);
        house.coming(1, 2, 9);
        house.days(1);
        Check.dueCourse(house, 0, 0, 1, 0, 98, 0, 1, -1);
        Check.dueCourse(house, 0, 1, 0, 0, 2, 0, -1, -1);
        Check.due("CREDIT by the want's PRICE, not the day's", house.order(0, CREDIT), 7 + 98 * 7 + 20000);
        house.days(20);
        Check.due("CREDIT once", house.order(0, CREDIT), 7 + 98 * 7 + 20000);
        Check.due("nothing is sent then", house.stock(1), 9);
        Check.due("CREDIT of all", house.count(8), 20693);
    }

    private static void oneSendingADay() {
        PostHouse house = Made.house(10, 10);
        Check.rules(house, "behind 2;place 1000 by 1001");
        Check.letter(house, "1000 x 3,1000 x 2,1001 x 1 sum 60");
        house.days(1);
        Check.due("nothing was sent", house.count(4), 0);
        house.coming(0, 2, 3);
        house.coming(1, 2, 1);
        house.days(1);
        Check.due("two wants, one sending", house.count(4), 1);
        Check.dueSending(house, 0, 0, 2, 4, 1);
        house.coming(1, 3, 2);
        house.days(1);
        Check.due("placed alone", house.count(4), 2);
        Check.dueSending(house, 1, 0, 3, 2, 1);
        Check.letter(house, "1000 x 1 sum 10");
        house.days(3);
        Check.due("CANCELLED", house.want(1, 0, 5), 1);
        Check.due("cancelled alone is no sending", house.count(4), 2);
        house.back(0, 0, 1);
        Check.due("nor is what came back", house.count(4), 2);
    }

    /** Six wants of sixty orders, a thing a day: 360 sendings, of which 300 are kept. */
    private static void threeHundredSendings() {
        PostHouse house = Made.house(1, 1, 1, 1, 1, 1);
        for (int i = 0; i < 60; i++) {
            Check.letter(house, "1000x1,1001x1,1002x1,1003x1,1004x1,1005x1sum6");
        }
        for (int i = 0; i < 6; i++) {
            house.coming(i, i + 1, i == 4 ? 59 : 60);
        }
        house.days(5);
        Check.due("SENDINGS", house.count(4), 299);
        Check.dueThrow("sending(299, 0)", INDEX, () -> house.sending(299, 0));
        house.days(1);
        Check.due("SENDINGS kept", house.count(4), 300);
        Check.dueSending(house, 0, 0, 1, 1, 1);
        Check.dueSending(house, 298, 58, 5, 1, 1);
        Check.dueSending(house, 299, 0, 6, 1, 1);
        Check.dueThrow("sending(300, 0)", INDEX, () -> house.sending(300, 0));
        Check.due("what is not kept is sent nonetheless", house.want(59, 5, 3), 1);
        Check.due("on its day", house.want(59, 5, 7), 6);
        Check.due("stock(5)", house.stock(5), 0);
    }

    /** The parcels of one piece of each weight. */
    private static void dueParcels(int parcels, int... weights) {
        PostHouse house = new PostHouse();
        StringBuilder letter = new StringBuilder();
        for (int i = 0; i < weights.length; i++) {
            house.thing(1000 + i, weights[i], 0, 1);
            house.price(i, 1, 0, 999);
            house.coming(i, 1, 1);
            letter.append(i == 0 ? "" : ",").append(1000 + i).append("x1");
        }
        Check.rules(house, "post 0");
        Check.letter(house, letter + "sum" + weights.length);
        house.days(1);
        Check.due("pieces", house.sending(0, 2), weights.length);
        Check.due("PARCELS of " + java.util.Arrays.toString(weights), house.sending(0, 3), parcels);
    }

    private static void piecesOfASending() {
        PostHouse house = Made.house(10, 10);
        Check.rules(house, "behind 0;place 1000 by 1001");
        Check.letter(house, "1000 x 99,1001 x 99,1000 x 1 sum 1990");
        house.coming(0, 1, 40);
        house.coming(1, 1, 200);
        house.days(1);
        Check.dueSending(house, 0, 0, 1, 199, 1);
        Check.letter(house, "1001 x 1 sum 10");
        house.coming(1, 2, 1);
        house.days(1);
        Check.dueSending(house, 1, 1, 2, 1, 1);
    }

    private static void fallingWeight() {
        dueParcels(2, 800, 1200, 900, 1100);
        dueParcels(2, 1200, 1100, 900, 800);
        dueParcels(3, 500, 800, 1200, 1250, 1350);
        dueParcels(3, 600, 700, 1000, 600, 700, 1000);
        dueParcels(2, 1, 1000, 999, 1000, 1000);
    }

    /** By other rules, the fullest or the last one that has room, these would be two or four. */
    private static void firstParcel() {
        dueParcels(3, 150, 250, 650, 950, 450, 700, 650, 150);
        dueParcels(3, 100, 1300, 500, 250, 1350, 450, 500, 1300);
    }

    private static void fullParcel() {
        dueParcels(1, 2000);
        dueParcels(1, 1000, 1000);
        dueParcels(2, 1000, 1001);
        dueParcels(1, 1999, 1);
        dueParcels(2, 2000, 1);
        dueParcels(1, 500, 500, 500, 500);
        dueParcels(2, 500, 500, 500, 501);
    }

    private static void newParcels() {
        dueParcels(8, 2000, 2000, 2000, 2000, 2000, 2000, 2000, 2000);
        dueParcels(4, 1001, 1001, 1001, 1001);
        PostHouse house = new PostHouse();
        house.thing(1000, 2000, 0, 1);
        house.price(0, 1, 0, 999);
        house.coming(0, 1, 1000);
        Check.rules(house, "post 0");
        Check.letter(house, "1000x99" + ",1000x99".repeat(7) + "sum792");
        Check.letter(house, "1000x1sum1");
        house.days(1);
        Check.dueSending(house, 0, 0, 1, 792, 792);
        Check.dueSending(house, 1, 1, 1, 1, 1);
    }

    private static void piecesThatCame() {
        PostHouse house = Made.house(10, 10);
        Check.letter(house, "1000 x 2,1001 x 2 sum 40");
        Check.due("nothing came", house.back(0, 0, 1), false);
        house.coming(0, 1, 2);
        house.days(1);
        Check.due("of a want that came", house.back(0, 0, 1), true);
        Check.due("of one that did not", house.back(0, 1, 1), false);
        house.days(10);
        Check.due("what is cancelled did not come", house.back(0, 1, 1), false);
    }

    private static void backInTime() {
        for (int back : new int[] {0, 1, 14, 99}) {
            PostHouse house = Made.house(10);
            Check.rules(house, "back " + back);
            Check.letter(house, "1000 x 2 sum 20");
            house.coming(0, 3, 1);
            house.coming(0, 5, 1);
            house.days(5);
            house.days(back);
            Check.due("on day " + back + " of " + back, house.back(0, 0, 1), true);
            house.days(1);
            Check.due("a day behind " + back, house.back(0, 0, 1), false);
        }
        PostHouse house = Made.house(10, 10);
        Check.letter(house, "1000 x 1,1001 x 1 sum 20");
        house.coming(0, 1, 1);
        house.coming(1, 9, 1);
        house.days(16);
        Check.due("another want's day does not count", house.back(0, 0, 1), false);
        Check.due("its own does", house.back(0, 1, 1), true);
        Check.rules(house, "back 15");
        Check.due("by the RULES of the day", house.back(0, 0, 1), true);
        backBehindAPlacing();
    }

    private static void backBehindAPlacing() {
        PostHouse house = Made.house(10, 10);
        Check.rules(house, "back 2;behind 4;place 1000 by 1001");
        Check.letter(house, "1000 x 2 sum 20");
        house.coming(0, 1, 1);
        house.coming(1, 1, 1);
        house.days(4);
        Check.due("too late", house.back(0, 0, 1), false);
        house.days(1);
        Check.due("PLACED came last", house.want(0, 0, 7), 5);
        house.days(2);
        Check.due("all of it may come back then", house.back(0, 0, 2), true);
    }

    private static void noMoreThanCame() {
        PostHouse house = Made.house(10, 10);
        Check.rules(house, "behind 0;place 1000 by 1001");
        Check.letter(house, "1000 x 5 sum 50");
        house.coming(0, 1, 2);
        house.coming(1, 1, 3);
        house.days(1);
        Check.due("six of five", house.back(0, 0, 6), false);
        Check.due("99 of five", house.back(0, 0, 99), false);
        Check.due("four of five", house.back(0, 0, 4), true);
        Check.due("two of one", house.back(0, 0, 2), false);
        Check.due("one of one", house.back(0, 0, 1), true);
        Check.due("one of none", house.back(0, 0, 1), false);
        PostHouse whole = Made.house(10);
        Check.letter(whole, "1000 x 99 sum 990");
        whole.coming(0, 1, 99);
        whole.days(1);
        Check.due("99 of 99", whole.back(0, 0, 99), true);
        Check.due("RETURNED", whole.want(0, 0, 6), 99);
    }

    private static void placedFirst() {
        PostHouse house = Made.house(10, 10, 10);
        Check.rules(house, "behind 2;place 1000 by 1001");
        Check.letter(house, "1000 x 7 sum 70");
        house.coming(0, 2, 4);
        house.days(2);
        Check.due("of SENT, as nothing is PLACED yet", house.back(0, 0, 1), true);
        Check.due("stock(0)", house.stock(0), 1);
        house.coming(1, 3, 2);
        house.days(1);
        Check.dueCourse(house, 0, 0, 5, 2, 0, 1, 3, 1);
        Check.rules(house, "place 1000 by 1002");
        Check.due("one of PLACED", house.back(0, 0, 1), true);
        Check.due("stock(1), the thing that came", house.stock(1), 1);
        Check.due("stock(0) then", house.stock(0), 0);
        Check.due("the last of PLACED and one of SENT", house.back(0, 0, 2), true);
        Check.due("stock(1) then", house.stock(1), 2);
        Check.due("stock(0) at last", house.stock(0), 1);
        Check.due("stock(2)", house.stock(2), 0);
        Check.due("all the rest of SENT", house.back(0, 0, 3), true);
        Check.due("stock(0) behind all", house.stock(0), 4);
        Check.due("stock(1) behind all", house.stock(1), 2);
    }

    private static void priceOfTheWant() {
        PostHouse house = Made.house(7, 500);
        Check.rules(house, "behind 0;place 1000 by 1001");
        Check.letter(house, "1000 x 4 sum 28 money 30");
        house.coming(0, 1, 1);
        house.coming(1, 1, 3);
        house.days(1);
        house.price(0, 9, 0, 999);
        Check.due("of PLACED and SENT", house.back(0, 0, 4), true);
        Check.due("CREDIT", house.order(0, CREDIT), 30);
        Check.due("CREDIT of all", house.count(8), 30);
    }

    private static void soManyDays() {
        PostHouse house = Made.house(10);
        Check.letter(house, "1000 x 3 sum 30");
        for (int day = 1; day <= 3; day++) {
            house.coming(0, day, 1);
        }
        Check.due("days(0)", house.days(0), 0);
        Check.due("no DAY was", house.order(0, LEFT), 3);
        Check.due("days(2)", house.days(2), 2);
        Check.due("two DAYS were", house.count(4), 2);
        Check.due("days(100)", house.days(100), 102);
        Check.dueSending(house, 2, 0, 3, 1, 1);
    }

    private static void noSuchDays() {
        PostHouse house = Made.house(10);
        for (int n : new int[] {-1, 101, Made.LEAST, Made.MOST}) {
            Check.dueThrow("days(" + n + ")", ARGUMENT, () -> house.days(n));
        }
        Check.due("TODAY", house.count(0), 0);
        Check.due("days(100)", house.days(100), 100);
        Made.goToDay(house, 999);
        Check.dueThrow("days(101) on the last day", ARGUMENT, () -> house.days(101));
        Check.due("days(0) on the last day", house.days(0), 999);
    }

    private static void ofAnOrder() {
        PostHouse house = Made.houseOnDay(2, 10, 20);
        Check.rules(house, "post 6");
        Check.letter(house, "1000 x 3,1001 x 4 sum 110 money 120");
        house.coming(0, 3, 1);
        house.days(1);
        house.back(0, 0, 1);
        Check.rules(house, "post 9");
        Check.dueOrder(house, 0, 2, 2, 120, 14, 6, 6);
    }

    private static void ofAnOrderNoMore() {
        PostHouse house = Made.house(10);
        Check.letter(house, "1000 x 1 sum 10");
        for (int what : new int[] {-1, 6, Made.LEAST, Made.MOST}) {
            Check.dueThrow("order(0, " + what + ")", ELEMENT, () -> house.order(0, what));
        }
    }

    private static PostHouse houseOfOneOfAll() {
        PostHouse house = Made.house(10, 20);
        Check.rules(house, "behind 0;place 1000 by 1001");
        Check.letter(house, "1001 x 1,1000 x 6,1001 x 8 sum 240");
        house.coming(0, 1, 2);
        house.coming(1, 1, 6);
        house.days(1);
        house.back(0, 1, 5);
        return house;
    }

    private static void ofAWant() {
        PostHouse house = houseOfOneOfAll();
        int[][] due = {{1, 1, 20, 1, 0, 0, 0}, {0, 6, 10, 2, 4, 0, 5}, {1, 8, 20, 1, 0, 7, 0}};
        for (int want = 0; want < due.length; want++) {
            for (int what = 0; what < due[want].length; what++) {
                Check.due("want(0, " + want + ", " + what + ")", house.want(0, want, what), due[want][what]);
            }
        }
    }

    private static void dayItCame() {
        PostHouse house = Made.house(10);
        Check.letter(house, "1000 x 3 sum 30");
        house.days(1);
        Check.due("nothing came", house.want(0, 0, 7), -1);
        house.coming(0, 2, 1);
        house.coming(0, 4, 1);
        house.days(1);
        Check.due("on day 2", house.want(0, 0, 7), 2);
        house.days(1);
        Check.due("still", house.want(0, 0, 7), 2);
        house.days(1);
        Check.due("on day 4", house.want(0, 0, 7), 4);
        house.back(0, 0, 2);
        Check.due("RETURNS leave it", house.want(0, 0, 7), 4);
        house.days(1);
        Check.due("what came back is sent on day 5", house.want(0, 0, 7), 5);
        Check.letter(house, "1000 x 3 sum 30");
        house.days(1);
        Check.due("the rest of it on day 6", house.want(1, 0, 7), 6);
        house.days(20);
        Check.due("CANCELLED", house.want(1, 0, 5), 2);
        Check.due("which leaves the day", house.want(1, 0, 7), 6);
    }

    private static void thingThatWasPlaced() {
        PostHouse house = houseOfOneOfAll();
        Check.due("none was", house.want(0, 0, 8), -1);
        Check.due("1001", house.want(0, 1, 8), 1);
        Check.due("none, it was cancelled", house.want(0, 2, 8), -1);
        house.thing(1002, 1, 0, 1);
        Check.rules(house, "place 1000 by 1002");
        Check.due("1001 stays", house.want(0, 1, 8), 1);
        house.back(0, 1, 1);
        Check.due("behind all came back", house.want(0, 1, 8), 1);
        PostHouse first = Made.house(10, 10);
        Check.rules(first, "behind 0;place 1001 by 1000");
        Check.letter(first, "1001 x 1 sum 10");
        first.coming(0, 1, 1);
        first.days(1);
        Check.due("THING 0 is no NONE", first.want(0, 0, 8), 0);
    }

    private static void ofAWantNoMore() {
        PostHouse house = Made.house(10);
        Check.letter(house, "1000 x 1 sum 10");
        for (int what : new int[] {-1, 9, Made.LEAST, Made.MOST}) {
            Check.dueThrow("want(0, 0, " + what + ")", ELEMENT, () -> house.want(0, 0, what));
        }
    }

    private static void mayNotBe() {
        PostHouse house = Made.house(10);
        Check.letter(house, "1000 x 3 sum 30");
        house.coming(0, 1, 2);
        house.days(1);
        Check.due("too many", house.back(0, 0, 3), false);
        house.days(14);
        Check.due("in time", house.back(0, 0, 1), true);
        house.days(1);
        Check.due("too late", house.back(0, 0, 1), false);
        Check.dueCourse(house, 0, 0, 2, 0, 1, 1, 1, -1);
        Check.due("CREDIT", house.order(0, CREDIT), 20);
        Check.due("stock(0)", house.stock(0), 1);
    }

    private static void noSuchMany() {
        PostHouse house = Made.house(10);
        Check.letter(house, "1000 x 99,1000 x 1 sum 1000");
        house.coming(0, 1, 100);
        house.days(1);
        for (int many : new int[] {0, -1, 100, Made.LEAST, Made.MOST}) {
            Check.dueThrow("back(0, 0, " + many + ")", ARGUMENT, () -> house.back(0, 0, many) ? 1 : 0);
        }
        Check.due("back(0, 1, 1)", house.back(0, 1, 1), true);
        Check.due("back(0, 0, 99)", house.back(0, 0, 99), true);
        Check.dueThrow("back(0, 0, 0) behind all", ARGUMENT, () -> house.back(0, 0, 0) ? 1 : 0);
    }

    private static void ofASending() {
        PostHouse house = new PostHouse();
        house.thing(1000, 1500, 0, 1);
        house.price(0, 10, 0, 999);
        Check.rules(house, "post 0");
        Check.letter(house, "1000 x 1 sum 10");
        Check.letter(house, "1000 x 5 sum 50");
        house.coming(0, 2, 4);
        house.days(3);
        Check.dueSending(house, 0, 0, 2, 1, 1);
        Check.dueSending(house, 1, 1, 2, 3, 3);
    }

    private static void ofASendingNoMore() {
        PostHouse house = Made.house(10);
        Check.letter(house, "1000 x 1 sum 10");
        house.coming(0, 1, 1);
        house.days(1);
        for (int what : new int[] {-1, 4, Made.LEAST, Made.MOST}) {
            Check.dueThrow("sending(0, " + what + ")", ELEMENT, () -> house.sending(0, what));
        }
    }

    private static void noSuchNumbers() {
        PostHouse house = Made.house(10);
        Check.letter(house, "1000 x 1,1000 x 1 sum 20");
        Check.letter(house, "1000 x 1 sum 10");
        house.coming(0, 1, 3);
        house.days(1);
        for (int none : new int[] {-1, 2, 8, 60, 300, Made.LEAST, Made.MOST}) {
            Check.dueThrow("order(" + none + ", 0)", INDEX, () -> house.order(none, 0));
            Check.dueThrow("want(" + none + ", 0, 0)", INDEX, () -> house.want(none, 0, 0));
            Check.dueThrow("want(0, " + none + ", 0)", INDEX, () -> house.want(0, none, 0));
            Check.dueThrow("back(" + none + ", 0, 1)", INDEX, () -> house.back(none, 0, 1) ? 1 : 0);
            Check.dueThrow("back(0, " + none + ", 1)", INDEX, () -> house.back(0, none, 1) ? 1 : 0);
            Check.dueThrow("sending(" + none + ", 0)", INDEX, () -> house.sending(none, 0));
        }
        Check.dueThrow("want(1, 1, 0), of another order", INDEX, () -> house.want(1, 1, 0));
        Check.dueThrow("back(1, 1, 1), of another order", INDEX, () -> house.back(1, 1, 1) ? 1 : 0);
        Check.due("want(0, 1, 0)", house.want(0, 1, 0), 0);
        Check.due("sending(1, 0)", house.sending(1, 0), 1);
    }
}
