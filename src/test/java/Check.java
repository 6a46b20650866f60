import java.nio.charset.StandardCharsets;

/** What all tests share: answers that are due, exceptions that are due, and texts for the tape. */
final class Check {
    interface Call {
        long run();
    }

    private static int wrong = 0;
    private static String sentence = "";

    private Check() {
    }

    /** A sentence of the document, in its own words, and the test that it has for itself. */
    static void sentence(String words, Runnable test) {
        sentence = "<" + words + ">: ";
        try {
            test.run();
        } catch (RuntimeException e) {
            tellWrong("the test ended by " + e);
        }
        sentence = "";
    }

    private static void tellWrong(String what) {
        wrong++;
        System.out.println(sentence + what);
    }

    static void due(String call, long got, long want) {
        if (got != want) {
            tellWrong(call + " answered " + got + ", due is " + want);
        }
    }

    static void due(String call, boolean got, boolean want) {
        due(call, got ? 1 : 0, want ? 1 : 0);
    }

    static void due(String call, String got, String want) {
        if (!got.equals(want)) {
            tellWrong(call + " answered " + got + ", due is " + want);
        }
    }

    /** The very class is due: an exception of the machine's own is a class below it. */
    static void dueThrow(String call, Class<? extends RuntimeException> kind, Call body) {
        String got;
        try {
            got = String.valueOf(body.run());
        } catch (RuntimeException e) {
            got = e.getClass().getName();
        }
        due(call, got, kind.getName());
    }

    /** All that may be asked of an order, from what 0 on. */
    static void dueOrder(PostHouse house, int order, int... due) {
        for (int what = 0; what < due.length; what++) {
            due("order(" + order + ", " + what + ")", house.order(order, what), due[what]);
        }
    }

    static void dueRules(PostHouse house, int... due) {
        for (int what = 0; what < due.length; what++) {
            due("says(" + what + ")", house.says(what), due[what]);
        }
    }

    static void dueDoubt(PostHouse house, int doubt, int... due) {
        for (int what = 0; what < due.length; what++) {
            due("doubt(" + doubt + ", " + what + ")", house.doubt(doubt, what), due[what]);
        }
    }

    static void dueSending(PostHouse house, int sending, int... due) {
        for (int what = 0; what < due.length; what++) {
            due("sending(" + sending + ", " + what + ")", house.sending(sending, what), due[what]);
        }
    }

    static void dueWant(PostHouse house, int order, int want, int... due) {
        dueOfWant(house, order, want, 0, due);
    }

    /** What became of a want: from SENT, what 3, on. */
    static void dueCourse(PostHouse house, int order, int want, int... due) {
        dueOfWant(house, order, want, 3, due);
    }

    private static void dueOfWant(PostHouse house, int order, int want, int first, int[] due) {
        for (int i = 0; i < due.length; i++) {
            int what = first + i;
            due("want(" + order + ", " + want + ", " + what + ")", house.want(order, want, what), due[i]);
        }
    }

    /** Puts a text on an empty tape; its characters are bytes. */
    static void tape(PostHouse house, String text) {
        byte[] bytes = text.getBytes(StandardCharsets.ISO_8859_1);
        house.end(0);
        for (int at = 0; at < bytes.length; at += 20) {
            house.feed(word(bytes, at), word(bytes, at + 4), word(bytes, at + 8),
                    word(bytes, at + 12), word(bytes, at + 16));
        }
        due("end(" + bytes.length + ")", house.end(bytes.length), true);
    }

    static int word(byte[] bytes, int from) {
        int word = 0;
        for (int i = from; i < from + 4; i++) {
            word = word << 8 | (i < bytes.length ? bytes[i] & 255 : 0);
        }
        return word;
    }

    static int letter(PostHouse house, String text) {
        tape(house, text);
        return house.letter();
    }

    static int rules(PostHouse house, String text) {
        tape(house, text);
        return house.rules();
    }

    static void wrongLetter(PostHouse house, String text, int fault) {
        tape(house, text);
        dueThrow("letter \"" + text + "\"", IllegalArgumentException.class, house::letter);
        due("fault of letter \"" + text + "\"", house.fault(), fault);
        due("tape behind a wrong letter", house.end(1), false);
    }

    static void wrongRules(PostHouse house, String text, int fault) {
        tape(house, text);
        dueThrow("rules \"" + text + "\"", IllegalArgumentException.class, house::rules);
        due("fault of rules \"" + text + "\"", house.fault(), fault);
        due("tape behind wrong rules", house.end(1), false);
    }

    static void finish() {
        if (wrong > 0) {
            System.exit(1);
        }
    }
}
