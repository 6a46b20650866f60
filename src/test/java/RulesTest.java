/** Promises 9 to 11 and 13: rules, says, instead, fault. */
public final class RulesTest {
    private RulesTest() {
    }

    public static void main(String[] args) {
        tellsRules();
        laterOneCounts();
        wrongTextsChangeNothing();
        faults();
        bounds();
        saysAndInstead();
        Check.finish();
    }

    private static PostHouse house() {
        PostHouse house = new PostHouse();
        house.thing(1234, 1, 0, 1);
        house.thing(7, 1, 0, 1);
        house.thing(9999, 1, 0, 1);
        return house;
    }

    private static void dueNumbers(PostHouse house, int behind, int post, int free, int back) {
        Check.due("says(0)", house.says(0), behind);
        Check.due("says(1)", house.says(1), post);
        Check.due("says(2)", house.says(2), free);
        Check.due("says(3)", house.says(3), back);
    }

    private static void duePlaces(PostHouse house, int first, int second, int third) {
        Check.due("instead(0)", house.instead(0), first);
        Check.due("instead(1)", house.instead(1), second);
        Check.due("instead(2)", house.instead(2), third);
    }

    private static void tellsRules() {
        PostHouse house = house();
        Check.due("one rule", Check.rules(house, "post 7"), 1);
        dueNumbers(house, 10, 7, 10000, 14);
        Check.due("without blanks", Check.rules(house, "place1234by0007;behind5;free0"), 3);
        dueNumbers(house, 5, 7, 0, 14);
        duePlaces(house, 1, -1, -1);
        Check.due("with many blanks", Check.rules(house, "   back  3  ;  place   0007   by  9999   "), 2);
        dueNumbers(house, 5, 7, 0, 3);
        duePlaces(house, 1, 2, -1);
        Check.due("round about", Check.rules(house, "place 9999 by 1234"), 1);
        duePlaces(house, 1, 2, 0);
        Check.due("fault()", house.fault(), -1);
    }

    private static void laterOneCounts() {
        PostHouse house = house();
        Check.due("rules alike", Check.rules(house,
                "place 1234 by 0007;behind 1;place 1234 by 9999;behind 2;behind 3"), 5);
        dueNumbers(house, 3, 50, 10000, 14);
        duePlaces(house, 2, -1, -1);
        Check.rules(house, "place 1234 by 0007");
        duePlaces(house, 1, -1, -1);
        StringBuilder many = new StringBuilder("back0");
        for (int i = 0; i < 65; i++) {
            many.append(";back").append(i % 10);
        }
        Check.due("as many as go on the tape", Check.rules(house, many.toString()), 66);
        dueNumbers(house, 3, 50, 10000, 4);
    }

    private static void wrongTextsChangeNothing() {
        PostHouse house = house();
        Check.rules(house, "place 1234 by 0007");
        Check.wrongRules(house, "behind 1;post 2;free 3;back 4;place 1234 by 9999;", 49);
        dueNumbers(house, 10, 50, 10000, 14);
        duePlaces(house, 1, -1, -1);
        Check.rules(house, "post 9");
        dueNumbers(house, 10, 9, 10000, 14);
        duePlaces(house, 1, -1, -1);
        Check.due("fault() behind a right text", house.fault(), -1);
    }

    private static void faults() {
        PostHouse house = house();
        Check.wrongRules(house, "", 0);
        Check.wrongRules(house, "    ", 4);
        Check.wrongRules(house, ";post 1", 0);
        Check.wrongRules(house, "post 1;;post 2", 7);
        Check.wrongRules(house, "post 1 ; ", 9);
        Check.wrongRules(house, "post 1 post 2", 7);
        Check.wrongRules(house, "post 1, post 2", 6);
        Check.wrongRules(house, "post", 4);
        Check.wrongRules(house, "post ;", 5);
        Check.wrongRules(house, "post x", 5);
        Check.wrongRules(house, "post 1x", 6);
        Check.wrongRules(house, "post -1", 5);
        Check.wrongRules(house, "posts 1", 0);
        Check.wrongRules(house, "pos 1", 0);
        Check.wrongRules(house, "most 1", 0);
        Check.wrongRules(house, "posy 1", 0);
        Check.wrongRules(house, "Post 1", 0);
        Check.wrongRules(house, "pOst 1", 0);
        Check.wrongRules(house, " sum 1", 1);
        Check.wrongRules(house, "12", 0);
        Check.wrongRules(house, "post\t1", 4);
        Check.wrongRules(house, "post 1\0", 6);
        Check.wrongRules(house, "post 1\u00ff", 6);
        Check.wrongRules(house, "post \u00b1", 5);
        Check.wrongRules(house, "\u00e4", 0);
        Check.wrongRules(house, "place", 5);
        Check.wrongRules(house, "place 123 by 0007", 6);
        Check.wrongRules(house, "place 12340 by 0007", 6);
        Check.wrongRules(house, "place 1235 by 0007", 6);
        Check.wrongRules(house, "place 1234", 10);
        Check.wrongRules(house, "place 1234 0007", 11);
        Check.wrongRules(house, "place 1234 bye 0007", 11);
        Check.wrongRules(house, "place 1234 by", 13);
        Check.wrongRules(house, "place 1234 by 7", 14);
        Check.wrongRules(house, "place 1234 by 0008", 14);
        Check.wrongRules(house, "place 1234 by  1234", 15);
        Check.wrongRules(house, "place 1234 by by", 14);
        Check.wrongRules(house, "place 1234 by 0007;place 0007 by 0007;post", 33);
        Check.wrongRules(house, "placeby", 0);
        Check.wrongRules(house, "1234 x 1 sum 5", 0);
        duePlaces(house, -1, -1, -1);
        dueNumbers(house, 10, 50, 10000, 14);
    }

    private static void bounds() {
        PostHouse house = house();
        Check.due("greatest", Check.rules(house, "behind 99;post 9999;free 999999;back 99"), 4);
        dueNumbers(house, 99, 9999, 999999, 99);
        Check.due("least", Check.rules(house, "behind 0;post 0;free 0;back 0"), 4);
        dueNumbers(house, 0, 0, 0, 0);
        Check.due("six digits", Check.rules(house, "behind 000012;back 000099"), 2);
        dueNumbers(house, 12, 0, 0, 99);
        Check.wrongRules(house, "behind 100", 7);
        Check.wrongRules(house, "post 10000", 5);
        Check.wrongRules(house, "free 1000000", 5);
        Check.wrongRules(house, "free 0000001", 5);
        Check.wrongRules(house, "back 100", 5);
        Check.wrongRules(house, "back 99999999999999999999999999999", 5);
        Check.wrongRules(house, "back 4294967296", 5);
    }

    private static void saysAndInstead() {
        PostHouse house = house();
        for (int what : new int[] {-1, 4, Integer.MIN_VALUE, Integer.MAX_VALUE}) {
            Check.dueThrow("says(" + what + ")", java.util.NoSuchElementException.class, () -> house.says(what));
        }
        for (int thing : new int[] {-1, 3, 30, Integer.MIN_VALUE, Integer.MAX_VALUE}) {
            Check.dueThrow("instead(" + thing + ")", IndexOutOfBoundsException.class, () -> house.instead(thing));
        }
    }
}
