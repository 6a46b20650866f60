import java.util.NoSuchElementException;

/** The bounds that part 3 of the terms and the promises 12, 14 and 15 name, a test for each sentence. */
public final class ReadingBoundsTest {
    private static final Class<IndexOutOfBoundsException> INDEX = IndexOutOfBoundsException.class;
    private static final Class<IllegalArgumentException> ARGUMENT = IllegalArgumentException.class;
    private static final Class<IllegalStateException> STATE = IllegalStateException.class;
    private static final Class<UnsupportedOperationException> UNSUPPORTED = UnsupportedOperationException.class;

    private ReadingBoundsTest() {
    }

    public static void main(String[] args) {
        reading();
        orders();
        settling();
        promises();
        Check.finish();
    }

    private static void reading() {
        Check.sentence("A LINE is KNOWN, if its CODE is of a THING that is SOLD TODAY.", ReadingBoundsTest::known);
        Check.sentence("TOTAL: the sum of all LINES' PRICES, each times how many.", ReadingBoundsTest::total);
        Check.sentence("A MENDING: one LINE", ReadingBoundsTest::oneLine);
        Check.sentence("and a THING that is SOLD TODAY", ReadingBoundsTest::thingSoldToday);
        Check.sentence("whose CODE is unlike the LINE's in just one digit", ReadingBoundsTest::oneDigit);
        Check.sentence("so that with it all LINES are KNOWN", ReadingBoundsTest::allLinesKnown);
        Check.sentence("and TOTAL is the sum told.", ReadingBoundsTest::mendedTotal);
        Check.sentence("PLAIN: all LINES are KNOWN and TOTAL is the sum told.", ReadingBoundsTest::plain);
        Check.sentence("MENDED: it is not PLAIN, and there is just one MENDING: the LINE is of that THING.",
                ReadingBoundsTest::mended);
        Check.sentence("Else it is in DOUBT", ReadingBoundsTest::inDoubt);
        Check.sentence("(at most 20 wait, numbered from 0 on)", ReadingBoundsTest::twentyWait);
        Check.sentence("of none, or more than one.", ReadingBoundsTest::noneOrMore);
    }

    private static void orders() {
        Check.sentence("DUE: TOTAL, and POST if TOTAL is below FREE.", ReadingBoundsTest::postBelowFree);
        Check.sentence("A LETTER that is PLAIN or MENDED and has money below DUE is in DOUBT, too.",
                ReadingBoundsTest::moneyBelowDue);
        Check.sentence("Else it becomes an ORDER (at most 60, numbered from 0 on)", ReadingBoundsTest::sixtyOrders);
        Check.sentence("its LINES are WANTS: a THING, MANY, PRICE", ReadingBoundsTest::linesAreWants);
        Check.sentence("its CREDIT is money less DUE at first; made TODAY.", ReadingBoundsTest::creditAtFirst);
    }

    private static void settling() {
        Check.sentence("A DOUBT is settled by a hand: thrown away, or taken", ReadingBoundsTest::thrownAwayOrTaken);
        Check.sentence("its LINES that are KNOWN on that day", ReadingBoundsTest::knownOnThatDay);
        Check.sentence("as they were told; MENDED, if the LETTER was read so", ReadingBoundsTest::toldOrMended);
        Check.sentence("become an ORDER of that day, by that day's PRICES and RULES",
                ReadingBoundsTest::pricesAndRulesOfThatDay);
        Check.sentence("it can not be taken if there is none", ReadingBoundsTest::noLineIsKnown);
        Check.sentence("or money is below DUE", ReadingBoundsTest::takenBelowDue);
        Check.sentence("Once settled it does not wait any more; the numbers of others stay.",
                ReadingBoundsTest::numbersStay);
    }

    private static void promises() {
        Check.sentence("Uses the TAPE up: a LETTER: the number of its ORDER", ReadingBoundsTest::numberOfTheOrder);
        Check.sentence("NONE less the number of its DOUBT, and one less, if it is in DOUBT",
                ReadingBoundsTest::numberOfTheDoubt);
        Check.sentence("(- 2 for DOUBT 0, - 3 for 1, ..)", ReadingBoundsTest::numbersOfManyDoubts);
        Check.sentence("IllegalArgumentException: the text is wrong; UnsupportedOperationException",
                ReadingBoundsTest::wrongLetter);
        Check.sentence("an ORDER is due and there are 60", ReadingBoundsTest::letterWithSixtyOrders);
        Check.sentence("or a DOUBT and 20 wait.", ReadingBoundsTest::letterWithTwentyDoubts);
        Check.sentence("Of a DOUBT what 0: 1 if it waits, else 0", ReadingBoundsTest::doubtWaits);
        Check.sentence("1 how many MENDINGS there were (0 if it was PLAIN)", ReadingBoundsTest::doubtMendings);
        Check.sentence("2 LINES, 3 of these KNOWN as it was read (MENDED, if it was), 4 the sum told, 5 money.",
                ReadingBoundsTest::doubtNumbers);
        Check.sentence("5 money. NoSuchElementException: another what.", ReadingBoundsTest::doubtHasNothingElse);
        Check.sentence("A DOUBT is settled: the ORDER, if it is taken", ReadingBoundsTest::settleAnswersTheOrder);
        Check.sentence("NONE if it is thrown away, or can not be taken (it waits on then).",
                ReadingBoundsTest::settleAnswersNone);
        Check.sentence("IllegalStateException: it does not wait", ReadingBoundsTest::settledAlready);
        Check.sentence("UnsupportedOperationException: an ORDER is due, and there are 60.",
                ReadingBoundsTest::settleWithSixtyOrders);
        Check.sentence("there is no such THING, ORDER, WANT, DOUBT", ReadingBoundsTest::noSuchDoubt);
    }

    /** One thing, 1000, sold on the days from 3 to 4 alone, and one, 2222, on all. */
    private static PostHouse houseOfTwoDays() {
        PostHouse house = new PostHouse();
        house.thing(1000, 1, 0, 1);
        house.price(0, 10, 3, 4);
        house.thing(2222, 1, 0, 1);
        house.price(1, 10, 0, 999);
        Check.rules(house, "post 0");
        return house;
    }

    private static void known() {
        PostHouse house = houseOfTwoDays();
        int[] due = {1, 1, 1, 2, 2, 1};
        for (int day = 0; day < due.length; day++) {
            Check.letter(house, "1000 x 1,2222 x 1,9999 x 1 sum 1");
            Check.due("KNOWN on day " + day, house.doubt(day, 3), due[day]);
            house.days(1);
        }
        house.thing(9999, 1, 0, 1);
        Check.letter(house, "1000 x 1,2222 x 1,9999 x 1 sum 1");
        Check.due("KNOWN of a thing without a price", house.doubt(6, 3), 1);
        house.price(2, 5, 0, 999);
        Check.letter(house, "1000 x 1,2222 x 1,9999 x 1 sum 1");
        Check.due("KNOWN of a thing with a price", house.doubt(7, 3), 2);
        Check.due("a doubt that was read ahead stays", house.doubt(6, 3), 1);
    }

    private static void total() {
        PostHouse house = Made.house(7, 10000, 1);
        Check.due("one line", Check.letter(house, "1000 x 3 sum 21"), 0);
        Check.due("three lines", Check.letter(house, "1000 x 2,1001 x 3,1002 x 99 sum 30113"), 1);
        Check.due("one thing twice", Check.letter(house, "1000 x 1,1000 x 2 sum 21"), 2);
        Check.due("one less", Check.letter(house, "1001 x 9,1000 x 2 sum 90013"), -2);
        Check.due("one more", Check.letter(house, "1001 x 9,1000 x 2 sum 90015"), -3);
        Check.due("far above any sum", Check.letter(house, "1001x99" + ",1001x99".repeat(7) + "sum 999999"), -4);
        Check.dueDoubt(house, 2, 1, 0, 8, 8, 999999, 999999);
    }

    private static void oneLine() {
        PostHouse house = Made.house(10);
        Check.due("one line is wrong", Check.letter(house, "1000 x 1,1001 x 1 sum 20"), 0);
        Check.due("two lines are wrong", Check.letter(house, "1002 x 1,1001 x 1 sum 20"), -2);
        Check.due("MENDINGS", house.doubt(0, 1), 0);
        PostHouse known = Made.house(10, 20);
        Check.due("two known lines would have to be others", Check.letter(known, "1000 x 1,1000 x 1 sum 40"), -2);
        Check.due("MENDINGS of known lines", known.doubt(0, 1), 0);
        Check.due("one known line has to be another", Check.letter(known, "1000 x 1,1000 x 2 sum 50"), 0);
        Check.dueWant(known, 0, 1, 1, 2, 20);
    }

    private static void thingSoldToday() {
        PostHouse house = houseOfTwoDays();
        int[] due = {-2, -3, -4, 0, 1, -5};
        for (int day = 0; day < due.length; day++) {
            Check.due("a letter on day " + day, Check.letter(house, "1001 x 1 sum 10"), due[day]);
            house.days(1);
        }
        Check.due("count(6)", house.count(6), 2);
        PostHouse told = Made.house(0, 10);
        Check.due("a code of a thing that is not sold is mended", Check.letter(told, "1000 x 1 sum 10"), 0);
        Check.dueWant(told, 0, 0, 1, 1, 10);
    }

    private static void oneDigit() {
        String[] mended = {"2345", "9345", "1045", "1945", "1305", "1395", "1340", "1349"};
        PostHouse house = new PostHouse();
        house.thing(1345, 1, 0, 1);
        house.price(0, 60, 0, 999);
        Check.rules(house, "post 0");
        for (int i = 0; i < mended.length; i++) {
            Check.due("letter of " + mended[i], Check.letter(house, mended[i] + " x 1 sum 60"), i);
        }
        String[] doubts = {"2445", "2355", "2344", "1455", "1444", "1354", "5431", "3451", "0134", "0000"};
        for (int i = 0; i < doubts.length; i++) {
            Check.due("letter of " + doubts[i], Check.letter(house, doubts[i] + " x 1 sum 60"), -2 - i);
            Check.due("its MENDINGS", house.doubt(i, 1), 0);
        }
        Check.due("no digit is unlike", Check.letter(house, "1345 x 1 sum 61"), -12);
        Check.due("its MENDINGS", house.doubt(10, 1), 0);
        leadingZeros();
    }

    private static void leadingZeros() {
        PostHouse house = new PostHouse();
        house.thing(0, 1, 0, 1);
        house.price(0, 60, 0, 999);
        Check.rules(house, "post 0");
        String[] mended = {"1000", "0100", "0010", "0001", "9000", "0009"};
        for (int i = 0; i < mended.length; i++) {
            Check.due("letter of " + mended[i], Check.letter(house, mended[i] + " x 1 sum 60"), i);
        }
        Check.due("two digits unlike", Check.letter(house, "0011 x 1 sum 60"), -2);
        Check.due("four digits unlike", Check.letter(house, "9999 x 1 sum 60"), -3);
    }

    private static void allLinesKnown() {
        PostHouse house = Made.house(10, 20);
        Check.due("a line of no thing", Check.letter(house, "1000 x 1,7777 x 1 sum 20"), -2);
        Check.due("its MENDINGS", house.doubt(0, 1), 0);
        Check.due("the first line is of no thing", Check.letter(house, "7777 x 1,1000 x 1 sum 20"), -3);
        Check.due("its MENDINGS", house.doubt(1, 1), 0);
        house.thing(7777, 1, 0, 1);
        Check.due("a line of a thing that is not sold", Check.letter(house, "1000 x 1,7777 x 1 sum 20"), -4);
        house.price(2, 5, 0, 999);
        Check.due("all lines are known", Check.letter(house, "1000 x 1,7777 x 1 sum 25"), 0);
        Check.dueWant(house, 0, 0, 1, 1, 20);
    }

    private static void mendedTotal() {
        PostHouse house = Made.house(10);
        Check.due("one below", Check.letter(house, "1001 x 2 sum 19"), -2);
        Check.due("one above", Check.letter(house, "1001 x 2 sum 21"), -3);
        Check.due("as told", Check.letter(house, "1001 x 2 sum 20"), 0);
        Check.due("with another line", Check.letter(house, "1001 x 2,1000 x 3 sum 50"), 1);
        Check.due("with another line, one above", Check.letter(house, "1001 x 2,1000 x 3 sum 51"), -4);
    }

    private static void plain() {
        PostHouse house = Made.house(10, 10);
        Check.due("plain, though another thing would do", Check.letter(house, "1000 x 1 sum 10"), 0);
        Check.dueWant(house, 0, 0, 0, 1, 10);
        Check.due("count(6)", house.count(6), 0);
        Check.due("plain, with many that would do", Check.letter(house, "1001 x 1,1000 x 1 sum 20"), 1);
        Check.dueWant(house, 1, 0, 1, 1, 10);
        Check.dueWant(house, 1, 1, 0, 1, 10);
        Check.due("not all lines are known", Check.letter(house, "1000 x 1,7777 x 1 sum 10"), -2);
        Check.due("TOTAL is not the sum", Check.letter(house, "1000 x 1 sum 11"), -3);
    }

    private static void mended() {
        PostHouse house = Made.house(10, 20, 0);
        Check.due("the last line", Check.letter(house, "1001 x 1,1009 x 1 sum 30"), 0);
        Check.dueWant(house, 0, 1, 0, 1, 10);
        Check.due("the first line", Check.letter(house, "1009 x 1,1000 x 1 sum 30"), 1);
        Check.dueWant(house, 1, 0, 1, 1, 20);
        Check.dueWant(house, 1, 1, 0, 1, 10);
        Check.due("count(6)", house.count(6), 2);
        Check.due("two lines, one mending each", Check.letter(house, "1000 x 1,1000 x 1 sum 30"), -2);
        Check.dueDoubt(house, 0, 1, 2, 2, 2, 30, 30);
        house.price(2, 20, 0, 999);
        Check.due("one line, two mendings", Check.letter(house, "1009 x 1 sum 20"), -3);
        Check.dueDoubt(house, 1, 1, 2, 1, 0, 20, 20);
        Check.due("count(6) then", house.count(6), 2);
    }

    private static void inDoubt() {
        PostHouse house = Made.house(10);
        Check.due("of a line of no thing", Check.letter(house, "7777 x 1 sum 10"), -2);
        Check.due("of a wrong sum", Check.letter(house, "1000 x 1 sum 11"), -3);
        Check.due("ORDERS", house.count(2), 0);
        Check.due("DOUBTS that wait", house.count(3), 2);
        Check.due("money of all ORDERS", house.count(7), 0);
        Check.due("no thing at all", Check.letter(new PostHouse(), "0000 x 1 sum 0"), -2);
    }

    private static PostHouse houseOfTwentyDoubts() {
        PostHouse house = Made.house(10);
        for (int i = 0; i < 20; i++) {
            Check.due("doubt " + i, Check.letter(house, "7777 x 1 sum " + i), -2 - i);
        }
        return house;
    }

    private static void twentyWait() {
        PostHouse house = houseOfTwentyDoubts();
        Check.due("DOUBTS that wait", house.count(3), 20);
        Check.tape(house, "7777 x 1 sum 20");
        Check.dueThrow("a 21st", UNSUPPORTED, house::letter);
        Check.dueThrow("doubt(20, 0)", INDEX, () -> house.doubt(20, 0));
        house.settle(19, false);
        Check.due("one more behind one is settled", Check.letter(house, "7777 x 1 sum 20"), -22);
        Check.tape(house, "7777 x 1 sum 21");
        Check.dueThrow("a 21st again", UNSUPPORTED, house::letter);
        Check.due("the first one's sum", house.doubt(0, 4), 0);
        Check.due("the latest one's sum", house.doubt(20, 4), 20);
    }

    private static void noneOrMore() {
        PostHouse house = Made.house(10, 10, 10, 10, 10, 10, 10, 10, 10);
        Check.letter(house, "7777 x 1 sum 10");
        Check.due("none", house.doubt(0, 1), 0);
        Check.letter(house, "1009 x 1 sum 10");
        Check.due("nine", house.doubt(1, 1), 9);
        Check.letter(house, "1099 x 1 sum 10");
        Check.due("none of two digits", house.doubt(2, 1), 0);
        PostHouse lines = Made.house(10, 20);
        Check.letter(lines, "1000x1,1000x1,1000x1,1000x1,1000x1,1000x1,1000x1,1000x1 sum 90");
        Check.due("one in each line", lines.doubt(0, 1), 8);
    }

    private static void postBelowFree() {
        PostHouse house = Made.house(30);
        Check.rules(house, "post 7;free 31");
        Check.due("one below FREE", Check.letter(house, "1000 x 1 sum 30 money 40"), 0);
        Check.due("POST", house.order(0, 5), 7);
        Check.due("CREDIT", house.order(0, 3), 3);
        Check.rules(house, "free 30");
        Check.due("as much as FREE", Check.letter(house, "1000 x 1 sum 30 money 40"), 1);
        Check.due("no POST", house.order(1, 5), 0);
        Check.due("CREDIT without POST", house.order(1, 3), 10);
        Check.rules(house, "free 29");
        Check.letter(house, "1000 x 1 sum 30 money 40");
        Check.due("above FREE no POST", house.order(2, 5), 0);
        Check.rules(house, "free 0");
        Check.letter(house, "1000 x 1 sum 30 money 40");
        Check.due("FREE 0: never POST", house.order(3, 5), 0);
    }

    private static void moneyBelowDue() {
        PostHouse house = Made.house(30);
        Check.rules(house, "post 7");
        Check.due("plain, one below", Check.letter(house, "1000 x 1 sum 30 money 36"), -2);
        Check.due("plain, just DUE", Check.letter(house, "1000 x 1 sum 30 money 37"), 0);
        Check.due("mended, one below", Check.letter(house, "1001 x 1 sum 30 money 36"), -3);
        Check.due("it was not at once", house.count(6), 0);
        Check.due("mended, just DUE", Check.letter(house, "1001 x 1 sum 30 money 37"), 1);
        Check.due("at once", house.count(6), 1);
        Check.due("without money POST is missing", Check.letter(house, "1000 x 1 sum 30"), -4);
        Check.rules(house, "free 30");
        Check.due("without money and POST", Check.letter(house, "1000 x 1 sum 30"), 2);
        Check.due("one below TOTAL", Check.letter(house, "1000 x 1 sum 30 money 29"), -5);
    }

    private static PostHouse houseOfSixtyOrders() {
        PostHouse house = Made.house(10);
        for (int i = 0; i < 60; i++) {
            Check.due("order " + i, Check.letter(house, "1000 x 1 sum 10"), i);
        }
        return house;
    }

    private static void sixtyOrders() {
        PostHouse house = houseOfSixtyOrders();
        Check.tape(house, "1000 x 1 sum 10");
        Check.dueThrow("a 61st", UNSUPPORTED, house::letter);
        Check.due("ORDERS", house.count(2), 60);
        Check.due("money of the last", house.order(59, 2), 10);
        Check.dueThrow("order(60, 0)", INDEX, () -> house.order(60, 0));
        house.days(12);
        Check.due("CREDIT of all that is cancelled", house.count(8), 600);
        Check.tape(house, "1000 x 1 sum 10");
        Check.dueThrow("orders that have nothing left count, too", UNSUPPORTED, house::letter);
    }

    private static void linesAreWants() {
        PostHouse house = Made.house(10, 20);
        Check.letter(house, "1001 x 2,1000 x 99,1001 x 1 sum 1050");
        Check.due("WANTS", house.order(0, 1), 3);
        Check.dueWant(house, 0, 0, 1, 2, 20, 0, 0, 0, 0, -1, -1);
        Check.dueWant(house, 0, 1, 0, 99, 10, 0, 0, 0, 0, -1, -1);
        Check.dueWant(house, 0, 2, 1, 1, 20, 0, 0, 0, 0, -1, -1);
        house.price(1, 5, 0, 999);
        Check.dueWant(house, 0, 0, 1, 2, 20);
        Check.due("LEFT of all", house.order(0, 4), 102);
    }

    private static void creditAtFirst() {
        PostHouse house = Made.houseOnDay(6, 10);
        Check.rules(house, "post 3");
        Check.letter(house, "1000 x 2 sum 20 money 23");
        Check.letter(house, "1000 x 2 sum 20 money 999999");
        Check.due("none", house.order(0, 3), 0);
        Check.due("the rest", house.order(1, 3), 999976);
        Check.due("made on", house.order(0, 0), 6);
        house.days(1);
        Check.due("stays made on", house.order(0, 0), 6);
        Check.letter(house, "1000 x 2 sum 20 money 23");
        Check.due("the next, made on", house.order(2, 0), 7);
    }

    private static void thrownAwayOrTaken() {
        PostHouse house = Made.house(10);
        Check.letter(house, "1000 x 1 sum 11");
        Check.letter(house, "1000 x 1 sum 12");
        Check.due("thrown away", house.settle(0, false), -1);
        Check.due("ORDERS", house.count(2), 0);
        Check.due("taken", house.settle(1, true), 0);
        Check.due("ORDERS then", house.count(2), 1);
        Check.due("DOUBTS that wait", house.count(3), 0);
        Check.due("no letter of it was mended at once", house.count(6), 0);
    }

    private static void knownOnThatDay() {
        PostHouse house = houseOfTwoDays();
        for (int i = 0; i < 6; i++) {
            Check.letter(house, "1000 x 1,9999 x 1,2222 x 2 sum 77");
        }
        int[] due = {1, 1, 1, 2, 2, 1};
        for (int day = 0; day < due.length; day++) {
            Check.due("taken on day " + day, house.settle(day, true), day);
            Check.due("WANTS", house.order(day, 1), due[day]);
            Check.due("the last of them", house.want(day, due[day] - 1, 0), 1);
            house.days(1);
        }
    }

    private static void toldOrMended() {
        PostHouse house = Made.house(10, 20);
        Check.letter(house, "1009 x 1 sum 10 money 9");
        Check.letter(house, "1009 x 1,1000 x 1 sum 99 money 99");
        Check.letter(house, "1000 x 1,1000 x 1 sum 30 money 99");
        house.thing(1009, 1, 0, 1);
        house.price(2, 5, 0, 999);
        house.price(0, 8, 0, 999);
        Check.due("mended", house.settle(0, true), 0);
        Check.dueWant(house, 0, 0, 0, 1, 8);
        Check.due("as told", house.settle(1, true), 1);
        Check.dueWant(house, 1, 0, 2, 1, 5);
        Check.dueWant(house, 1, 1, 0, 1, 8);
        Check.due("as told, as there were two mendings", house.settle(2, true), 2);
        Check.dueWant(house, 2, 0, 0, 1, 8);
        Check.dueWant(house, 2, 1, 0, 1, 8);
    }

    private static void pricesAndRulesOfThatDay() {
        PostHouse house = new PostHouse();
        house.thing(1000, 1, 0, 1);
        house.price(0, 10, 0, 4);
        house.price(0, 12, 5, 9);
        Check.letter(house, "1000 x 1 sum 99");
        Made.goToDay(house, 5);
        Check.rules(house, "post 3;free 13");
        Check.due("taken", house.settle(0, true), 0);
        Check.dueOrder(house, 0, 5, 1, 99, 84, 1, 3);
        Check.dueWant(house, 0, 0, 0, 1, 12);
        Check.letter(house, "1000 x 1 sum 99");
        Check.rules(house, "free 12");
        Check.due("taken without POST", house.settle(1, true), 1);
        Check.due("POST", house.order(1, 5), 0);
        Check.due("CREDIT", house.order(1, 3), 87);
    }

    private static void noLineIsKnown() {
        PostHouse house = houseOfTwoDays();
        Check.letter(house, "1000 x 1 sum 10 money 999");
        Check.due("ahead of its days", house.settle(0, true), -1);
        Check.due("it waits", house.doubt(0, 0), 1);
        Made.goToDay(house, 5);
        Check.due("behind its days", house.settle(0, true), -1);
        Check.letter(house, "9999 x 1,9998 x 1 sum 0");
        Check.due("of no thing", house.settle(1, true), -1);
        Check.rules(house, "free 0");
        Check.due("of no thing, without POST", house.settle(1, true), -1);
        Check.due("ORDERS", house.count(2), 0);
        Check.due("DOUBTS that wait", house.count(3), 2);
    }

    private static void takenBelowDue() {
        PostHouse house = Made.house(30);
        Check.rules(house, "post 7");
        Check.letter(house, "1000 x 1 sum 30 money 36");
        Check.due("one below", house.settle(0, true), -1);
        Check.due("it waits", house.doubt(0, 0), 1);
        Check.rules(house, "post 6");
        Check.due("just DUE", house.settle(0, true), 0);
        Check.due("CREDIT", house.order(0, 3), 0);
        Check.letter(house, "1000 x 1 sum 31 money 29");
        Check.rules(house, "free 30");
        Check.due("below TOTAL", house.settle(1, true), -1);
        Check.letter(house, "1000 x 1 sum 31 money 30");
        Check.due("just TOTAL, not the sum told", house.settle(2, true), 1);
    }

    private static void numbersStay() {
        PostHouse house = Made.house(10);
        for (int i = 0; i < 4; i++) {
            Check.letter(house, "1000 x 1,9999 x 1 sum " + (50 + i));
        }
        house.settle(0, false);
        house.settle(2, true);
        int[] waits = {0, 1, 0, 1};
        for (int i = 0; i < waits.length; i++) {
            Check.dueDoubt(house, i, waits[i], 0, 2, 1, 50 + i, 50 + i);
        }
        Check.due("the next number", Check.letter(house, "9999 x 1 sum 54"), -6);
        Check.due("its sum", house.doubt(4, 4), 54);
        Check.due("the first one's sum", house.doubt(0, 4), 50);
        Check.due("DOUBTS that wait", house.count(3), 3);
    }

    private static void numberOfTheOrder() {
        PostHouse house = Made.house(10);
        Check.due("the first", Check.letter(house, "1000 x 1 sum 10"), 0);
        Check.due("the tape is empty", house.end(1), false);
        Check.letter(house, "1000 x 1 sum 11");
        Check.due("the second, behind a doubt", Check.letter(house, "1000 x 1 sum 10"), 1);
        house.settle(0, true);
        Check.due("the fourth, behind one that was taken", Check.letter(house, "1000 x 1 sum 10"), 3);
    }

    private static void numberOfTheDoubt() {
        PostHouse house = Made.house(10);
        Check.due("doubt 0", Check.letter(house, "1000 x 1 sum 11"), -2);
        Check.due("the tape is empty", house.end(1), false);
        Check.due("doubt 1", Check.letter(house, "1000 x 1 sum 11"), -3);
        Check.letter(house, "1000 x 1 sum 10");
        Check.due("doubt 2, behind an order", Check.letter(house, "1000 x 1 sum 11"), -4);
    }

    /** As many doubts as the 512 calls of an object can make, each thrown away. */
    private static void numbersOfManyDoubts() {
        PostHouse house = new PostHouse();
        for (int i = 0; i < 170; i++) {
            Check.due("feed", house.feed(0x37373737, 0x78312073, 0x756d2020, 0x31323334, 0x20202020), 20);
            Check.due("doubt " + i, house.letter(), -2 - i);
            Check.due("settle " + i, house.settle(i, false), -1);
        }
        Check.due("the last one's sum", house.doubt(169, 4), 1234);
        Check.due("the first one's sum", house.doubt(0, 4), 1234);
    }

    private static void wrongLetter() {
        PostHouse house = Made.house(10);
        Check.wrongLetter(house, "1000 x 1 sum 10 money", 21);
        Check.dueThrow("an empty tape", ARGUMENT, house::letter);
        Check.due("fault() of an empty tape", house.fault(), 0);
        Check.due("ORDERS", house.count(2), 0);
        Check.due("DOUBTS that wait", house.count(3), 0);
        Check.due("the next doubt", Check.letter(house, "1000 x 1 sum 11"), -2);
        Check.due("the next order", Check.letter(house, "1000 x 1 sum 10"), 0);
    }

    private static void letterWithSixtyOrders() {
        PostHouse house = houseOfSixtyOrders();
        Check.tape(house, "1001 x 1 sum 10");
        Check.dueThrow("mended", UNSUPPORTED, house::letter);
        Check.due("the tape is used up", house.end(1), false);
        Check.due("none was mended", house.count(6), 0);
        Check.due("DOUBTS that wait", house.count(3), 0);
        Check.due("a doubt may come", Check.letter(house, "1000 x 1 sum 11"), -2);
        Check.due("money below DUE may come", Check.letter(house, "1000 x 1 sum 10 money 9"), -3);
        Check.wrongLetter(house, "1000 x 1 sum", 12);
    }

    private static void letterWithTwentyDoubts() {
        PostHouse house = houseOfTwentyDoubts();
        Check.tape(house, "1000 x 1 sum 10 money 9");
        Check.dueThrow("money below DUE", UNSUPPORTED, house::letter);
        Check.due("the tape is used up", house.end(1), false);
        Check.due("an order may come", Check.letter(house, "1000 x 1 sum 10"), 0);
        Check.due("a mended one may come", Check.letter(house, "1001 x 1 sum 10"), 1);
        Check.wrongLetter(house, "7777 x 1 sum", 12);
        house.settle(3, false);
        Check.due("a doubt may come again", Check.letter(house, "7777 x 1 sum 10"), -22);
    }

    private static void doubtWaits() {
        PostHouse house = Made.house(10);
        Check.letter(house, "1000 x 1 sum 11");
        Check.letter(house, "1000 x 1 sum 11");
        Check.letter(house, "1000 x 1 sum 11 money 9");
        Check.due("doubt(0, 0)", house.doubt(0, 0), 1);
        house.settle(0, true);
        house.settle(1, false);
        house.settle(2, true);
        Check.due("taken", house.doubt(0, 0), 0);
        Check.due("thrown away", house.doubt(1, 0), 0);
        Check.due("not to be taken", house.doubt(2, 0), 1);
    }

    private static void doubtMendings() {
        PostHouse house = Made.house(10, 10, 20);
        Check.letter(house, "1000 x 1 sum 10 money 9");
        Check.due("of a plain one, though 1001 would do", house.doubt(0, 1), 0);
        Check.letter(house, "1009 x 1 sum 20 money 9");
        Check.due("of a mended one", house.doubt(1, 1), 1);
        Check.letter(house, "1009 x 1 sum 10");
        Check.due("of two", house.doubt(2, 1), 2);
        Check.letter(house, "1009 x 1 sum 11");
        Check.due("of none", house.doubt(3, 1), 0);
        house.price(2, 10, 0, 999);
        Check.due("as it was read", house.doubt(2, 1), 2);
    }

    private static void doubtNumbers() {
        PostHouse house = Made.house(10, 20);
        Check.letter(house, "1000 x 1,9999 x 1,1001 x 1 sum 6 money 7");
        Check.dueDoubt(house, 0, 1, 0, 3, 2, 6, 7);
        Check.letter(house, "1009 x 1,1001 x 1 sum 30 money 9");
        Check.dueDoubt(house, 1, 1, 1, 2, 2, 30, 9);
        Check.letter(house, "1009 x 1 sum 31");
        Check.dueDoubt(house, 2, 1, 0, 1, 0, 31, 31);
        house.thing(1009, 1, 0, 1);
        house.price(2, 1, 0, 999);
        Check.dueDoubt(house, 2, 1, 0, 1, 0, 31, 31);
        house.settle(2, true);
        Check.dueDoubt(house, 2, 0, 0, 1, 0, 31, 31);
    }

    private static void doubtHasNothingElse() {
        PostHouse house = Made.house(10);
        Check.letter(house, "1000 x 1 sum 11");
        for (int what : new int[] {-1, 6, Made.LEAST, Made.MOST}) {
            Check.dueThrow("doubt(0, " + what + ")", NoSuchElementException.class, () -> house.doubt(0, what));
        }
    }

    private static void settleAnswersTheOrder() {
        PostHouse house = Made.house(10);
        Check.letter(house, "1000 x 1 sum 11");
        Check.letter(house, "1000 x 2 sum 22");
        Check.letter(house, "1000 x 1 sum 10");
        Check.due("behind one order", house.settle(1, true), 1);
        Check.due("behind two", house.settle(0, true), 2);
        Check.due("MANY", house.want(1, 0, 1), 2);
        Check.due("money", house.order(2, 2), 11);
    }

    private static void settleAnswersNone() {
        PostHouse house = Made.house(10);
        Check.letter(house, "1000 x 1 sum 11 money 9");
        Check.letter(house, "9999 x 1 sum 11");
        for (int i = 0; i < 2; i++) {
            Check.due("can not be taken", house.settle(i, true), -1);
            Check.due("it waits on", house.doubt(i, 0), 1);
            Check.due("thrown away", house.settle(i, false), -1);
            Check.due("it does not wait", house.doubt(i, 0), 0);
        }
        Check.due("ORDERS", house.count(2), 0);
    }

    private static void settledAlready() {
        PostHouse house = Made.house(10);
        for (int i = 0; i < 3; i++) {
            Check.letter(house, "1000 x 1 sum 11");
        }
        house.settle(0, true);
        house.settle(1, false);
        for (int i = 0; i < 2; i++) {
            int doubt = i;
            Check.dueThrow("settle(" + i + ", true)", STATE, () -> house.settle(doubt, true));
            Check.dueThrow("settle(" + i + ", false)", STATE, () -> house.settle(doubt, false));
        }
        Check.due("ORDERS", house.count(2), 1);
        Check.due("the one that waits", house.settle(2, true), 1);
    }

    private static void settleWithSixtyOrders() {
        PostHouse house = houseOfSixtyOrders();
        Check.letter(house, "1000 x 1 sum 11");
        Check.letter(house, "1000 x 1 sum 11 money 9");
        Check.dueThrow("settle(0, true)", UNSUPPORTED, () -> house.settle(0, true));
        Check.due("it waits on", house.doubt(0, 0), 1);
        Check.due("no order is due", house.settle(1, true), -1);
        Check.due("thrown away", house.settle(0, false), -1);
        Check.dueThrow("it does not wait", STATE, () -> house.settle(0, true));
        Check.due("ORDERS", house.count(2), 60);
    }

    private static void noSuchDoubt() {
        PostHouse house = Made.house(10);
        Check.dueThrow("doubt(0, 0) without one", INDEX, () -> house.doubt(0, 0));
        Check.dueThrow("settle(0, true) without one", INDEX, () -> house.settle(0, true));
        Check.letter(house, "1000 x 1 sum 11");
        for (int doubt : new int[] {-1, 1, 20, Made.LEAST, Made.MOST}) {
            Check.dueThrow("doubt(" + doubt + ", 0)", INDEX, () -> house.doubt(doubt, 0));
            Check.dueThrow("settle(" + doubt + ", true)", INDEX, () -> house.settle(doubt, true));
            Check.dueThrow("settle(" + doubt + ", false)", INDEX, () -> house.settle(doubt, false));
        }
        Check.due("doubt(0, 0)", house.doubt(0, 0), 1);
    }
}
