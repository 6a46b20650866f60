import java.io.IOException;
import java.lang.reflect.Method;
import java.lang.reflect.Modifier;
import java.nio.file.Files;
import java.nio.file.Path;
import java.util.List;
import java.util.stream.Collectors;

/** README.md tells how to use the class: its lines answer what they say; run from the project's folder. */
public final class ReadmeTest {
    private static final Path README = Path.of("README.md");
    private static final Path SOURCE = Path.of("src", "test", "java", "ReadmeTest.java");
    private static final String RULES = "place 1234 by 1235; behind 10; post 50; free 10000; back 14";
    private static final String LETTER = "1234 x 2, 0450 x 1 sum 230 money 280";

    private ReadmeTest() {
    }

    public static void main(String[] args) throws IOException {
        String readme = between(README, "```java", "```");
        Check.due("the lines of README.md", readme, between(SOURCE, "// README", "// README"));
        answers();
        texts(Files.readString(README));
        everyCallIsTold(Files.readString(README));
        Check.finish();
    }

    private static String between(Path file, String begin, String end) throws IOException {
        List<String> lines = Files.readAllLines(file).stream().map(String::strip).toList();
        int first = lines.indexOf(begin) + 1;
        return lines.stream().skip(first).takeWhile(line -> !line.equals(end)).collect(Collectors.joining("\n"));
    }

    private static void answers() {
        // README
        PostHouse house = new PostHouse();
        int thing = house.thing(1234, 500, 0, 5);   // 0: the number of a thing of code, weight, street, place
        house.price(thing, 100, 0, 50);             // it costs 100 from day 0 to day 50
        house.coming(thing, 1, 5);                  // five come on day 1
        // The text "1234 x 2 sum 200 money 260": twenty bytes a call, then cut to its length.
        house.feed(0x31323334, 0x20782032, 0x2073756d, 0x20323030, 0x206d6f6e);
        house.feed(0x65792032, 0x36300000, 0, 0, 0);
        house.end(26);
        int order = house.letter();                 // 0: the number of its order
        int credit = house.order(order, 3);         // 10: money 260 less 200 and 50 for the post
        int today = house.days(1);                  // 1: a day passes, what there is is sent
        int sent = house.want(order, 0, 3);         // 2: pieces sent of the order's first want
        boolean taken = house.back(order, 0, 1);    // true: one of them comes back
        int stock = house.stock(thing);             // 4: five came, two went, one is back
        house.pick(thing);                          // the things to be fetched from the shelves
        int steps = house.walk();                   // 10: to place 5 of street 0 and back
        // README
        Check.due("thing", thing, 0);
        Check.due("order", order, 0);
        Check.due("credit", credit, 10);
        Check.due("today", today, 1);
        Check.due("sent", sent, 2);
        Check.due("taken", taken, true);
        Check.due("stock", stock, 4);
        Check.due("steps", steps, 10);
    }

    private static void texts(String readme) {
        Check.due("README.md has these rules", readme.contains("\n    " + RULES + "\n"), true);
        Check.due("README.md has this letter", readme.contains("\n    " + LETTER + "\n"), true);
        PostHouse house = new PostHouse();
        house.thing(1234, 500, 0, 5);
        house.thing(1235, 500, 0, 6);
        house.thing(450, 500, 0, 7);
        house.price(0, 100, 0, 999);
        house.price(2, 30, 0, 999);
        Check.due("rules()", Check.rules(house, RULES), 5);
        Check.due("letter()", Check.letter(house, LETTER), 0);
    }

    private static void everyCallIsTold(String readme) {
        for (Method method : PostHouse.class.getDeclaredMethods()) {
            if (Modifier.isPublic(method.getModifiers())) {
                String call = "| `" + method.getName() + "(";
                Check.due(call + " stands in README.md", readme.contains(call), true);
            }
        }
    }
}
