import java.lang.reflect.InvocationTargetException;
import java.lang.reflect.Method;
import java.nio.charset.StandardCharsets;
import java.util.ArrayList;
import java.util.Arrays;
import java.util.HashMap;
import java.util.List;
import java.util.Map;
import java.util.Random;
import java.util.TreeMap;

/** Runs of 512 calls, drawn from fixed seeds, answered by PostHouse as SlowHouse answers them. */
public final class RandomTest {
    private static final int CALLS = 512;
    private static final int RUNS = 400;
    private static final int[] EDGES = {Integer.MIN_VALUE, -2, -1, 0, 1, 99, 100, 1000, 10001, Integer.MAX_VALUE};

    private final Random random;
    private final PostHouse house = new PostHouse();
    private final SlowHouse slow = new SlowHouse();
    private final List<String> log = new ArrayList<>();
    private final List<Integer> codes = new ArrayList<>();
    private final int thingsWanted;
    private final int dayLength;
    private int calls;
    private int doubtsMade;
    private boolean differs;

    private static final Map<String, Method> FAST = methods(PostHouse.class);
    private static final Map<String, Method> SLOW = methods(SlowHouse.class);
    private static final Map<String, Integer> SEEN = new TreeMap<>();

    private RandomTest(int seed) {
        random = new Random(seed);
        thingsWanted = new int[] {2, 4, 8, 35}[random.nextInt(4)];
        dayLength = new int[] {1, 2, 5, 100}[random.nextInt(4)];
    }

    public static void main(String[] args) {
        int wrong = 0;
        for (int seed = 1; seed <= RUNS && wrong < 3; seed++) {
            RandomTest test = new RandomTest(seed);
            test.run();
            if (test.differs) {
                wrong++;
                System.out.println("seed " + seed + ": " + test.log);
            }
        }
        if (args.length > 0) {
            System.out.println(SEEN);
        }
        if (wrong > 0) {
            System.exit(1);
        }
    }

    private static Map<String, Method> methods(Class<?> face) {
        Map<String, Method> methods = new HashMap<>();
        for (Method method : face.getMethods()) {
            if (method.getDeclaringClass() == face) {
                methods.put(method.getName(), method);
            }
        }
        return methods;
    }

    private void run() {
        boolean orderly = random.nextInt(4) > 0;
        if (orderly) {
            for (int i = 0; i < Math.min(thingsWanted, 12); i++) {
                addThing();
                call("price", i, 1 + random.nextInt(4) * 5, 0, 999);
            }
            text("rules", "post " + random.nextInt(3) + ";behind " + random.nextInt(6));
        }
        int kinds = random.nextInt(5);
        while (calls < CALLS && !differs) {
            step(kinds);
        }
        readAll();
    }

    /** What the run left behind; these calls come on top of the 512 and only read. */
    private void readAll() {
        for (int what = 0; what <= 9; what++) {
            read("count", what);
        }
        for (int i = 0; i < house.count(1); i++) {
            read("stock", i);
            read("instead", i);
            read("costs", i, house.count(0));
            read("foretold", i, Math.max(0, house.count(0) - 20), 333, 7, 2);
        }
        for (int i = 0; i < house.count(2); i++) {
            for (int what = 0; what <= 5; what++) {
                read("order", i, what);
            }
            for (int want = 0; want < house.order(i, 1); want++) {
                for (int what = 0; what <= 8; what++) {
                    read("want", i, want, what);
                }
            }
        }
        for (int i = 0; i < doubtsMade; i++) {
            for (int what = 0; what <= 5; what++) {
                read("doubt", i, what);
            }
        }
        for (int i = 0; i < house.count(4); i++) {
            for (int what = 0; what <= 3; what++) {
                read("sending", i, what);
            }
        }
    }

    private void step(int kinds) {
        int draw = random.nextInt(100);
        if (draw < 6) {
            addThing();
        } else if (draw < 10) {
            call("price", thing(), edge(1 + random.nextInt(30)), edge(random.nextInt(40)), edge(random.nextInt(999)));
        } else if (draw < 22 + (kinds == 0 ? 20 : 0)) {
            int day = house.count(0) + 1 + random.nextInt(dayLength);
            call("coming", thing(), edge(day), edge(1 + random.nextInt(12)));
        } else if (draw < 28) {
            text("rules", spoil(rulesText()));
        } else if (draw < 50 + (kinds == 1 ? 30 : 0)) {
            text("letter", spoil(letterText()));
        } else if (draw < 56) {
            call("settle", doubt(), random.nextInt(3) > 0 ? 1 : 0);
        } else if (draw < 64) {
            call("days", edge(1 + random.nextInt(dayLength)));
        } else if (draw < 74) {
            call("back", small(house.count(2)), small(3), edge(1 + random.nextInt(4)));
        } else if (draw < 80) {
            call(random.nextInt(8) == 0 ? "walk" : "pick", thing());
        } else {
            ask();
        }
    }

    private void ask() {
        switch (random.nextInt(11)) {
            case 0 -> call("costs", thing(), edge(random.nextInt(60)));
            case 1 -> call("stock", thing());
            case 2 -> call("says", small(4));
            case 3 -> call("instead", thing());
            case 4 -> call("fault");
            case 5 -> call("doubt", doubt(), small(6));
            case 6 -> call("order", small(house.count(2)), small(6));
            case 7 -> call("want", small(house.count(2)), small(4), small(9));
            case 8 -> call("sending", small(house.count(4)), small(4));
            case 9 -> call("foretold", thing(), edge(random.nextInt(40)), edge(200 + random.nextInt(800)),
                    edge(1 + random.nextInt(20)), small(3));
            default -> call("count", small(10));
        }
    }

    private void addThing() {
        int code = random.nextInt(3) == 0 ? random.nextInt(10) : 1000 * random.nextInt(3) + random.nextInt(20);
        if (codes.size() < thingsWanted) {
            int weight = random.nextInt(3) == 0 ? 1 + random.nextInt(2000) : 300 + random.nextInt(900);
            int before = house.count(1);
            call("thing", code, edge(weight), edge(random.nextInt(8)), edge(1 + random.nextInt(20)));
            if (house.count(1) > before) {
                codes.add(code);
            }
        } else {
            call("count", 1);
        }
    }

    private int thing() {
        return small(house.count(1));
    }

    /** Mostly one of the latest, as old ones do not wait any more. */
    private int doubt() {
        return random.nextInt(4) == 0 ? small(doubtsMade) : Math.max(0, doubtsMade - 1 - random.nextInt(20));
    }

    private int small(int bound) {
        return random.nextInt(20) == 0 ? random.nextInt(bound + 3) - 1 : random.nextInt(Math.max(1, bound));
    }

    private int edge(int number) {
        return random.nextInt(40) == 0 ? EDGES[random.nextInt(EDGES.length)] : number;
    }

    private String code() {
        int code = codes.isEmpty() ? 0 : codes.get(random.nextInt(codes.size()));
        return String.format("%04d", Math.floorMod(code, 10000));
    }

    private String blanks() {
        return random.nextInt(4) == 0 ? " ".repeat(random.nextInt(3)) : "";
    }

    private String rulesText() {
        StringBuilder text = new StringBuilder();
        int many = 1 + random.nextInt(3);
        for (int i = 0; i < many; i++) {
            text.append(i == 0 ? "" : ";").append(blanks());
            switch (random.nextInt(6)) {
                case 0 -> text.append("behind ").append(random.nextInt(8));
                case 1 -> text.append("post").append(random.nextInt(30));
                case 2 -> text.append("free ").append(random.nextInt(200));
                case 3 -> text.append("back ").append(random.nextInt(20));
                default -> text.append("place ").append(code()).append(blanks()).append("by").append(code());
            }
            text.append(blanks());
        }
        return text.toString();
    }

    private String letterText() {
        StringBuilder text = new StringBuilder(blanks());
        int lines = 1 + random.nextInt(random.nextInt(4) == 0 ? 9 : 3);
        int total = 0;
        for (int i = 0; i < lines; i++) {
            String code = code();
            int many = random.nextInt(20) == 0 ? 99 : 1 + random.nextInt(6);
            total += Math.max(0, priceToday(code)) * many;
            String told = random.nextInt(5) == 0 ? oneDigit(code) : code;
            text.append(i == 0 ? "" : ",").append(told).append(blanks()).append('x').append(many).append(blanks());
        }
        int sum = random.nextInt(8) == 0 ? total + random.nextInt(5) : total;
        text.append("sum ").append(Math.min(sum, 999999));
        if (random.nextInt(3) > 0) {
            text.append(" money ").append(sum + (random.nextBoolean() ? house.says(1) : random.nextInt(100)));
        }
        return text.append(blanks()).toString();
    }

    private int priceToday(String code) {
        for (int i = 0; i < house.count(1) && i < codes.size(); i++) {
            if (codes.get(i) == Integer.parseInt(code)) {
                return house.costs(i, house.count(0));
            }
        }
        return 0;
    }

    private String oneDigit(String code) {
        char[] digits = code.toCharArray();
        digits[random.nextInt(4)] = (char) ('0' + random.nextInt(10));
        return new String(digits);
    }

    private String spoil(String text) {
        if (random.nextInt(6) > 0 || text.isEmpty()) {
            return text;
        }
        int at = random.nextInt(text.length());
        String signs = " ;,x0123456789abz\u0000\u00ff";
        String sign = random.nextInt(3) == 0 ? "" : String.valueOf(signs.charAt(random.nextInt(signs.length())));
        int behind = random.nextBoolean() ? at : at + 1;
        return random.nextInt(5) == 0 ? text.substring(0, at) : text.substring(0, at) + sign + text.substring(behind);
    }

    private void text(String reader, String text) {
        byte[] bytes = text.getBytes(StandardCharsets.ISO_8859_1);
        for (int at = 0; at < bytes.length; at += 20) {
            call("feed", Check.word(bytes, at), Check.word(bytes, at + 4), Check.word(bytes, at + 8),
                    Check.word(bytes, at + 12), Check.word(bytes, at + 16));
        }
        if (random.nextInt(30) > 0) {
            call("end", edge(bytes.length));
        }
        log.add("\"" + text + "\"");
        call(random.nextInt(60) == 0 ? (reader.equals("rules") ? "letter" : "rules") : reader);
        call("fault");
    }

    private void call(String name, int... numbers) {
        if (differs || calls >= CALLS) {
            return;
        }
        calls++;
        read(name, numbers);
    }

    private void read(String name, int... numbers) {
        int[] given = Arrays.copyOf(numbers, FAST.get(name).getParameterCount());
        String got = answer(FAST.get(name), house, given);
        String due = answer(SLOW.get(name), slow, given);
        String call = name + Arrays.toString(given) + " " + got;
        log.add(call);
        if (name.equals("want") && given[2] == 4 && !got.equals("0")) {
            SEEN.merge("want PLACED", 1, Integer::sum);
        }
        SEEN.merge(name + (got.startsWith("throws") ? " " + got : ""), 1, Integer::sum);
        if (!got.equals(due)) {
            differs = true;
            System.out.println(call + ", due is " + due);
        }
        if (name.equals("letter") && got.startsWith("-")) {
            doubtsMade++;
        }
        if (got.startsWith("throws")) {
            unchanged(call);
        }
    }

    /** A call that throws changes nothing: both houses still count alike. */
    private void unchanged(String call) {
        for (int what = 0; what <= 9; what++) {
            if (house.count(what) != slow.count(what)) {
                differs = true;
                System.out.println("count(" + what + ") behind " + call);
            }
        }
    }

    private static String answer(Method method, Object target, int[] numbers) {
        Object[] given = new Object[numbers.length];
        for (int i = 0; i < given.length; i++) {
            given[i] = method.getParameterTypes()[i] == boolean.class ? (Object) (numbers[i] != 0) : numbers[i];
        }
        try {
            return String.valueOf(method.invoke(target, given));
        } catch (InvocationTargetException e) {
            return "throws " + e.getCause().getClass().getName();
        } catch (IllegalAccessException e) {
            return "no access";
        }
    }
}
