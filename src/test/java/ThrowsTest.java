import java.util.NoSuchElementException;
import java.util.function.Consumer;
import java.util.function.Supplier;

/** The sentence at the end of the terms: which of several exceptions is thrown, and what a call that throws leaves. */
public final class ThrowsTest {
    private static final Class<IndexOutOfBoundsException> INDEX = IndexOutOfBoundsException.class;
    private static final Class<IllegalArgumentException> ARGUMENT = IllegalArgumentException.class;
    private static final Class<IllegalStateException> STATE = IllegalStateException.class;
    private static final Class<NoSuchElementException> ELEMENT = NoSuchElementException.class;
    private static final Class<UnsupportedOperationException> UNSUPPORTED = UnsupportedOperationException.class;

    private ThrowsTest() {
    }

    public static void main(String[] args) {
        Check.sentence("Of several exceptions the one told first is thrown", ThrowsTest::toldFirst);
        Check.sentence("a call that throws changes nothing", ThrowsTest::changesNothing);
        Check.sentence("but the TAPE, where it is used up.", ThrowsTest::usesTheTapeUp);
        Check.finish();
    }

    /** Something of all: sent, placed, cancelled and returned pieces, comings, picks, doubts, and a text to read. */
    private static PostHouse busyHouse() {
        PostHouse house = Made.house(10, 20, 30);
        Check.rules(house, "behind 1;place 1000 by 1001");
        Check.letter(house, "1000 x 5 sum 50 money 60");
        Check.letter(house, "1002 x 2 sum 60");
        house.coming(0, 1, 2);
        house.coming(1, 2, 3);
        house.coming(2, 2, 1);
        house.coming(2, 9, 5);
        house.days(2);
        house.back(0, 0, 1);
        Check.letter(house, "1002 x 1 sum 31 money 99");
        Check.letter(house, "1002 x 1 sum 32");
        house.settle(1, false);
        house.thing(3333, 1, 7, 20);
        house.pick(3);
        Check.wrongRules(house, "post", 4);
        Check.tape(house, "post 7");
        return house;
    }

    private static PostHouse houseOfThirtyThings() {
        PostHouse house = busyHouse();
        for (int i = 4; i < 30; i++) {
            house.thing(2000 + i, 1, 0, 1);
        }
        return house;
    }

    private static PostHouse houseOfFourPrices() {
        PostHouse house = busyHouse();
        for (int i = 0; i < 3; i++) {
            house.price(0, 11 + i, 0, 9);
        }
        return house;
    }

    private static PostHouse houseOfSixtyComings() {
        PostHouse house = busyHouse();
        for (int i = 1; i < 60; i++) {
            house.coming(1, 3 + i, 1);
        }
        return house;
    }

    /** With the text of one more order, the tape of the busy house being gone. */
    private static PostHouse houseOfSixtyOrders() {
        PostHouse house = busyHouse();
        for (int i = 2; i < 60; i++) {
            Check.letter(house, "1000x1sum10");
        }
        Check.wrongRules(house, "post", 4);
        Check.tape(house, "1003x1sum10");
        return house;
    }

    private static PostHouse houseOfTwentyDoubts() {
        PostHouse house = busyHouse();
        for (int i = 1; i < 20; i++) {
            Check.letter(house, "7777x1sum10");
        }
        Check.wrongRules(house, "post", 4);
        Check.tape(house, "7777x1sum10");
        return house;
    }

    private static void toldFirst() {
        things();
        doubtsAndOrders();
        texts();
    }

    private static void things() {
        PostHouse full = houseOfThirtyThings();
        Check.dueThrow("a wrong weight of a 31st thing", ARGUMENT, () -> full.thing(1, 0, 0, 1));
        Check.dueThrow("a code again of a 31st thing", ARGUMENT, () -> full.thing(1000, 1, 0, 1));
        PostHouse priced = houseOfFourPrices();
        Check.dueThrow("a wrong 5th price", ARGUMENT, () -> priced.price(0, 0, 0, 9));
        Check.dueThrow("a wrong price of no thing", INDEX, () -> priced.price(4, 0, 9, 0));
        PostHouse coming = houseOfSixtyComings();
        Check.dueThrow("a wrong 61st coming", ARGUMENT, () -> coming.coming(0, 2, 1));
        Check.dueThrow("a wrong coming of no thing", INDEX, () -> coming.coming(4, 2, 0));
        Check.dueThrow("a 61st coming of no thing", INDEX, () -> coming.coming(-1, 50, 1));
        Check.dueThrow("of no thing, from no day", INDEX, () -> coming.foretold(4, -1, 0, 0, 9));
        Check.dueThrow("of no thing, no what", INDEX, () -> coming.foretold(4, 0, 1, 1, 9));
        Check.dueThrow("from no day, no what", ARGUMENT, () -> coming.foretold(0, -1, 1, 1, 9));
        Check.dueThrow("of no share, no what", ARGUMENT, () -> coming.foretold(0, 0, 1001, 1, 9));
        Check.dueThrow("in no lots, no what", ARGUMENT, () -> coming.foretold(0, 0, 1, 0, 9));
    }

    private static void doubtsAndOrders() {
        PostHouse house = houseOfSixtyOrders();
        Check.dueThrow("no what of no doubt", INDEX, () -> house.doubt(2, 9));
        Check.dueThrow("no doubt, with 60 orders", INDEX, () -> house.settle(2, true));
        Check.dueThrow("a settled doubt, with 60 orders", STATE, () -> house.settle(1, true));
        Check.dueThrow("no what of no order", INDEX, () -> house.order(60, 9));
        Check.dueThrow("no what of no want", INDEX, () -> house.want(0, 1, 9));
        Check.dueThrow("no what of no order's want", INDEX, () -> house.want(60, 0, 9));
        Check.dueThrow("none back of no want", INDEX, () -> house.back(0, 1, 0) ? 1 : 0);
        Check.dueThrow("none back of no order", INDEX, () -> house.back(60, 0, 0) ? 1 : 0);
        Check.dueThrow("100 back of no order's no want", INDEX, () -> house.back(-1, -1, 100) ? 1 : 0);
        Check.dueThrow("no what of no sending", INDEX, () -> house.sending(house.count(4), 9));
    }

    private static void texts() {
        PostHouse orders = houseOfSixtyOrders();
        Check.wrongLetter(orders, "1000x1sum", 9);
        PostHouse doubts = houseOfTwentyDoubts();
        Check.wrongLetter(doubts, "7777x1sum", 9);
    }

    /** The call is made on one of two houses that are alike; behind it they are alike yet. */
    private static void leaves(String call, Class<? extends RuntimeException> kind, Supplier<PostHouse> made,
            Consumer<PostHouse> body) {
        PostHouse called = made.get();
        int fault = called.fault();
        throwsOn(call, kind, called, body);
        Check.due("fault() behind " + call, called.fault(), fault);
        Check.due("the house behind " + call, Trace.of(called), Trace.of(made.get()));
    }

    private static void throwsOn(String call, Class<? extends RuntimeException> kind, PostHouse house,
            Consumer<PostHouse> body) {
        Check.dueThrow(call, kind, () -> {
            body.accept(house);
            return 0;
        });
    }

    /** The same of a call that uses the tape up: the other house's tape is made empty. */
    private static void leavesButTheTape(String call, Class<? extends RuntimeException> kind,
            Supplier<PostHouse> made, int fault, Consumer<PostHouse> body) {
        PostHouse called = made.get();
        throwsOn(call, kind, called, body);
        Check.due("fault() behind " + call, called.fault(), fault);
        PostHouse other = made.get();
        other.end(0);
        Check.due("the house behind " + call, Trace.of(called), Trace.of(other));
    }

    private static void changesNothing() {
        leaves("a wrong thing", ARGUMENT, ThrowsTest::busyHouse, h -> h.thing(4444, 1, 0, 21));
        leaves("a code again", ARGUMENT, ThrowsTest::busyHouse, h -> h.thing(1000, 1, 0, 1));
        leaves("a 31st thing", UNSUPPORTED, ThrowsTest::houseOfThirtyThings, h -> h.thing(4444, 1, 0, 1));
        leaves("a price of no thing", INDEX, ThrowsTest::busyHouse, h -> h.price(4, 5, 0, 9));
        leaves("a wrong price", ARGUMENT, ThrowsTest::busyHouse, h -> h.price(0, 5, 9, 8));
        leaves("a 5th price", UNSUPPORTED, ThrowsTest::houseOfFourPrices, h -> h.price(0, 5, 0, 999));
        leaves("costs of no thing", INDEX, ThrowsTest::busyHouse, h -> h.costs(4, 0));
        leaves("a coming of no thing", INDEX, ThrowsTest::busyHouse, h -> h.coming(4, 9, 1));
        leaves("a wrong coming", ARGUMENT, ThrowsTest::busyHouse, h -> h.coming(0, 2, 1));
        leaves("a 61st coming", UNSUPPORTED, ThrowsTest::houseOfSixtyComings, h -> h.coming(0, 3, 1));
        leaves("stock of no thing", INDEX, ThrowsTest::busyHouse, h -> h.stock(4));
        leaves("says nothing else", ELEMENT, ThrowsTest::busyHouse, h -> h.says(4));
        leaves("instead of no thing", INDEX, ThrowsTest::busyHouse, h -> h.instead(4));
        leaves("a pick of no thing", INDEX, ThrowsTest::busyHouse, h -> h.pick(4));
        leaves("foretold of no thing", INDEX, ThrowsTest::busyHouse, h -> h.foretold(4, 0, 1, 1, 0));
        leaves("foretold of no day", ARGUMENT, ThrowsTest::busyHouse, h -> h.foretold(0, 1000, 1, 1, 0));
        leaves("foretold of no what", ELEMENT, ThrowsTest::busyHouse, h -> h.foretold(0, 0, 1, 1, 3));
        changesNoOrder();
    }

    private static void changesNoOrder() {
        leaves("no doubt", INDEX, ThrowsTest::busyHouse, h -> h.doubt(2, 0));
        leaves("no what of a doubt", ELEMENT, ThrowsTest::busyHouse, h -> h.doubt(0, 6));
        leaves("settle of no doubt", INDEX, ThrowsTest::busyHouse, h -> h.settle(2, true));
        leaves("settle of a settled one", STATE, ThrowsTest::busyHouse, h -> h.settle(1, true));
        leaves("settle away of a settled one", STATE, ThrowsTest::busyHouse, h -> h.settle(1, false));
        leaves("settle with 60 orders", UNSUPPORTED, ThrowsTest::houseOfSixtyOrders, h -> h.settle(0, true));
        leaves("-1 days", ARGUMENT, ThrowsTest::busyHouse, h -> h.days(-1));
        leaves("101 days", ARGUMENT, ThrowsTest::busyHouse, h -> h.days(101));
        leaves("no order", INDEX, ThrowsTest::busyHouse, h -> h.order(2, 0));
        leaves("no what of an order", ELEMENT, ThrowsTest::busyHouse, h -> h.order(0, 6));
        leaves("no want", INDEX, ThrowsTest::busyHouse, h -> h.want(0, 1, 0));
        leaves("no what of a want", ELEMENT, ThrowsTest::busyHouse, h -> h.want(0, 0, 9));
        leaves("back of no order", INDEX, ThrowsTest::busyHouse, h -> h.back(2, 0, 1));
        leaves("back of no want", INDEX, ThrowsTest::busyHouse, h -> h.back(0, 1, 1));
        leaves("back of none", ARGUMENT, ThrowsTest::busyHouse, h -> h.back(0, 0, 0));
        leaves("back of 100", ARGUMENT, ThrowsTest::busyHouse, h -> h.back(0, 0, 100));
        leaves("no sending", INDEX, ThrowsTest::busyHouse, h -> h.sending(3, 0));
        leaves("no what of a sending", ELEMENT, ThrowsTest::busyHouse, h -> h.sending(0, 4));
    }

    private static Supplier<PostHouse> busyWith(String text) {
        return () -> {
            PostHouse house = busyHouse();
            Check.tape(house, text);
            return house;
        };
    }

    private static void usesTheTapeUp() {
        leavesButTheTape("wrong rules", ARGUMENT, busyWith("post 1;behind 5;place 1002 by 1001;"), 35,
                PostHouse::rules);
        leavesButTheTape("no rules", ARGUMENT, busyWith(""), 0, PostHouse::rules);
        leavesButTheTape("a wrong letter", ARGUMENT, busyWith("1000 x 1 sum 10 money"), 21, PostHouse::letter);
        leavesButTheTape("no letter", ARGUMENT, busyWith(""), 0, PostHouse::letter);
        leavesButTheTape("a 61st order", UNSUPPORTED, ThrowsTest::houseOfSixtyOrders, -1, PostHouse::letter);
        leavesButTheTape("a 21st doubt", UNSUPPORTED, ThrowsTest::houseOfTwentyDoubts, -1, PostHouse::letter);
    }
}
