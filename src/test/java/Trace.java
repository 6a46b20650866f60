/** What a house answers, and what it does then, as a text: two houses with the same trace are in the same state. */
final class Trace {
    private final PostHouse house;
    private final StringBuilder text = new StringBuilder();

    private Trace(PostHouse house) {
        this.house = house;
    }

    /** The house is changed by it; it takes some 200 calls. */
    static String of(PostHouse house) {
        Trace trace = new Trace(house);
        trace.counts();
        trace.things();
        trace.orders();
        trace.doubts();
        trace.sendings();
        trace.goOn();
        trace.counts();
        trace.things();
        return trace.text.toString();
    }

    private void note(String name, Check.Call call) {
        text.append(name).append(' ');
        try {
            text.append(call.run());
        } catch (RuntimeException e) {
            text.append(e.getClass().getSimpleName());
        }
        text.append('\n');
    }

    private void counts() {
        for (int i = 0; i <= 9; i++) {
            int what = i;
            note("count " + what, () -> house.count(what));
        }
        for (int i = 0; i <= 3; i++) {
            int what = i;
            note("says " + what, () -> house.says(what));
        }
    }

    /** The first two, the last one and one behind, which is not there. */
    private static int[] some(int many) {
        return new int[] {0, 1, many - 1, many};
    }

    private void things() {
        for (int thing : some(house.count(1))) {
            note("stock " + thing, () -> house.stock(thing));
            note("instead " + thing, () -> house.instead(thing));
            note("costs " + thing, () -> house.costs(thing, house.count(0)));
            note("foretold " + thing, () -> house.foretold(thing, 0, 7, 1, 2));
        }
    }

    private void orders() {
        for (int order : some(house.count(2))) {
            for (int i = 0; i <= 5; i++) {
                int what = i;
                note("order " + order + " " + what, () -> house.order(order, what));
            }
            for (int i = 0; i <= 8; i++) {
                int what = i;
                note("want " + order + " " + what, () -> house.want(order, 0, what));
            }
        }
    }

    private void doubts() {
        for (int i = 0; i <= 5; i++) {
            int what = i;
            note("doubt 0 " + what, () -> house.doubt(0, what));
            note("doubt 1 " + what, () -> house.doubt(1, what));
        }
        note("doubt 20", () -> house.doubt(20, 0));
    }

    private void sendings() {
        for (int sending : some(house.count(4))) {
            note("pieces " + sending, () -> house.sending(sending, 2));
        }
    }

    /** What cannot be asked shows itself here: the tape, the picks, the comings, the numbers to come. */
    private void goOn() {
        note("feed", () -> house.feed(0, 0, 0, 0, 0));
        note("end", () -> house.end(6) ? 1 : 0);
        note("rules", house::rules);
        note("fault", house::fault);
        note("pick", () -> house.pick(0));
        note("walk", house::walk);
        note("price", () -> house.price(0, 3, 0, 999));
        note("coming", () -> house.coming(0, house.count(0) + 1, 4));
        note("thing", () -> house.thing(5555, 1, 0, 1));
        note("settle", () -> house.settle(0, true));
        note("order", () -> Check.letter(house, "1001x1sum20money99"));
        note("doubt", () -> Check.letter(house, "7777x1sum20"));
        note("back", () -> house.back(0, 0, 1) ? 1 : 0);
        note("days", () -> house.days(1));
        note("coming", () -> house.coming(0, house.count(0) + 1, 4));
        note("days", () -> house.days(12));
    }
}
