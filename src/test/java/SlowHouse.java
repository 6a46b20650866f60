import java.nio.charset.StandardCharsets;
import java.util.ArrayList;
import java.util.Arrays;
import java.util.Collections;
import java.util.LinkedHashMap;
import java.util.List;
import java.util.Map;
import java.util.NoSuchElementException;
import java.util.TreeMap;
import java.util.regex.Matcher;
import java.util.regex.Pattern;

/** The document once more, with the Java library and no thought of speed: what RandomTest holds PostHouse against. */
public final class SlowHouse {
    private static final Pattern TOKEN = Pattern.compile("[a-z]+|[0-9]+|[^ ]", Pattern.DOTALL);

    private record Thing(int code, int weight, int street, int place, List<int[]> prices) {
    }

    private record Token(String text, int begin) {
    }

    private static final class Doubt {
        List<String> codes = new ArrayList<>();
        List<Integer> many = new ArrayList<>();
        int sum;
        int money;
        int mendings;
        int known;
        boolean waits = true;
    }

    private static final class Want {
        int thing;
        int many;
        int price;
        List<Integer> sentDays = new ArrayList<>();
        List<Integer> placedDays = new ArrayList<>();
        int placedBy = -1;
        int cancelled;
        int placedOut;
        int sentOut;

        int left() {
            return many - sentDays.size() - placedDays.size() - cancelled;
        }

        int last() {
            int last = -1;
            for (int day : sentDays) {
                last = Math.max(last, day);
            }
            for (int day : placedDays) {
                last = Math.max(last, day);
            }
            return last;
        }
    }

    private static final class Order {
        int day;
        int money;
        int post;
        int credit;
        List<Want> wants = new ArrayList<>();
    }

    private final List<Byte> tape = new ArrayList<>();
    private final List<Thing> things = new ArrayList<>();
    private final Map<Integer, Integer> stocks = new TreeMap<>();
    private final List<int[]> comings = new ArrayList<>();
    private Map<String, Integer> numbers = new TreeMap<>(Map.of("behind", 10, "post", 50, "free", 10000, "back", 14));
    private Map<Integer, Integer> places = new TreeMap<>();
    private final List<Doubt> doubts = new ArrayList<>();
    private final List<Order> orders = new ArrayList<>();
    private final List<int[]> sendings = new ArrayList<>();
    private final List<Integer> picks = new ArrayList<>();
    private int today;
    private int mended;
    private int wrong = -1;
    private List<Token> tokens = new ArrayList<>();
    private int textLength;

    public int feed(int a, int b, int c, int d, int e) {
        if (tape.size() > 380) {
            return -1;
        }
        for (int number : new int[] {a, b, c, d, e}) {
            tape.add((byte) (number >>> 24));
            tape.add((byte) (number >>> 16));
            tape.add((byte) (number >>> 8));
            tape.add((byte) number);
        }
        return tape.size();
    }

    public boolean end(int n) {
        if (n < 0 || n > tape.size()) {
            return false;
        }
        tape.subList(n, tape.size()).clear();
        return true;
    }

    public int thing(int code, int weight, int street, int place) {
        argument(code >= 0 && code <= 9999 && weight >= 1 && weight <= 2000);
        argument(street >= 0 && street <= 7 && place >= 1 && place <= 20 && byCode(four(code)) < 0);
        room(things.size() < 30);
        things.add(new Thing(code, weight, street, place, new ArrayList<>()));
        stocks.put(things.size() - 1, 0);
        return things.size() - 1;
    }

    public int price(int thing, int money, int from, int to) {
        index(thing, things);
        argument(money >= 1 && money <= 10000 && from >= 0 && to <= 999 && from <= to);
        List<int[]> prices = things.get(thing).prices();
        room(prices.size() < 4);
        prices.add(0, new int[] {money, from, to});
        return prices.size();
    }

    public int costs(int thing, int day) {
        index(thing, things);
        for (int[] price : things.get(thing).prices()) {
            if (price[1] <= day && day <= price[2]) {
                return price[0];
            }
        }
        return -1;
    }

    public int coming(int thing, int day, int many) {
        index(thing, things);
        argument(day > today && day <= 999 && many >= 1 && many <= 10000);
        room(comings.size() < 60);
        comings.add(new int[] {thing, day, many});
        return comings.size();
    }

    public int stock(int thing) {
        index(thing, things);
        return stocks.get(thing);
    }

    public int rules() {
        Map<String, Integer> newNumbers = new TreeMap<>(numbers);
        Map<Integer, Integer> newPlaces = new TreeMap<>(places);
        takeTokens();
        wrong = -1;
        int at = 0;
        int told = 0;
        boolean more = true;
        Map<String, Integer> most = Map.of("behind", 99, "post", 9999, "free", 999999, "back", 99);
        while (more) {
            String word = text(at);
            if (word.equals("place")) {
                int first = byCode(text(at + 1));
                need(text(at + 1).length() == 4 && first >= 0, at + 1);
                need(text(at + 2).equals("by"), at + 2);
                int second = byCode(text(at + 3));
                need(text(at + 3).length() == 4 && second >= 0 && second != first, at + 3);
                newPlaces.put(first, second);
                at += 4;
            } else {
                need(most.containsKey(word), at);
                need(isNumber(text(at + 1), 0, most.get(word)), at + 1);
                newNumbers.put(word, Integer.valueOf(text(at + 1)));
                at += 2;
            }
            told++;
            more = text(at).equals(";");
            at++;
        }
        need(at - 1 == tokens.size(), at - 1);
        numbers = newNumbers;
        places = newPlaces;
        return told;
    }

    public int says(int what) {
        element(what >= 0 && what <= 3);
        return numbers.get(List.of("behind", "post", "free", "back").get(what));
    }

    public int instead(int thing) {
        index(thing, things);
        return places.getOrDefault(thing, -1);
    }

    public int letter() {
        takeTokens();
        wrong = -1;
        Doubt letter = parse();
        boolean plain = allKnown(letter.codes) && total(letter.codes, letter.many) == letter.sum;
        List<List<String>> mendings = plain ? List.of() : mendings(letter);
        letter.mendings = mendings.size();
        if (letter.mendings == 1) {
            letter.codes = mendings.get(0);
        }
        letter.known = (int) letter.codes.stream().filter(this::known).count();
        if ((plain || letter.mendings == 1) && letter.money >= due(total(letter.codes, letter.many))) {
            room(orders.size() < 60);
            mended += letter.mendings;
            return makeOrder(letter);
        }
        room(count(3) < 20);
        doubts.add(letter);
        return -1 - doubts.size();
    }

    private Doubt parse() {
        Doubt letter = new Doubt();
        int at = 0;
        boolean more = true;
        while (more) {
            need(text(at).matches("[0-9]{4}"), at);
            letter.codes.add(text(at));
            need(text(at + 1).equals("x"), at + 1);
            need(isNumber(text(at + 2), 1, 99), at + 2);
            letter.many.add(Integer.valueOf(text(at + 2)));
            at += 3;
            more = text(at).equals(",");
            need(!more || letter.codes.size() < 8, at);
            at += more ? 1 : 0;
        }
        need(text(at).equals("sum"), at);
        need(isNumber(text(at + 1), 0, 999999), at + 1);
        letter.sum = Integer.parseInt(text(at + 1));
        letter.money = letter.sum;
        at += 2;
        if (text(at).equals("money")) {
            need(isNumber(text(at + 1), 0, 999999), at + 1);
            letter.money = Integer.parseInt(text(at + 1));
            at += 2;
        }
        need(at == tokens.size(), at);
        return letter;
    }

    private List<List<String>> mendings(Doubt letter) {
        List<List<String>> found = new ArrayList<>();
        for (int line = 0; line < letter.codes.size(); line++) {
            for (Thing thing : things) {
                List<String> codes = new ArrayList<>(letter.codes);
                codes.set(line, four(thing.code()));
                int unlike = 0;
                for (int i = 0; i < 4; i++) {
                    unlike += codes.get(line).charAt(i) == letter.codes.get(line).charAt(i) ? 0 : 1;
                }
                if (unlike == 1 && allKnown(codes) && total(codes, letter.many) == letter.sum) {
                    found.add(codes);
                }
            }
        }
        return found;
    }

    public int fault() {
        return wrong;
    }

    public int doubt(int doubt, int what) {
        index(doubt, doubts);
        element(what >= 0 && what <= 5);
        Doubt d = doubts.get(doubt);
        return List.of(d.waits ? 1 : 0, d.mendings, d.codes.size(), d.known, d.sum, d.money).get(what);
    }

    public int settle(int doubt, boolean take) {
        index(doubt, doubts);
        Doubt d = doubts.get(doubt);
        if (!d.waits) {
            throw new IllegalStateException();
        }
        if (!take) {
            d.waits = false;
            return -1;
        }
        if (d.codes.stream().noneMatch(this::known) || d.money < due(total(d.codes, d.many))) {
            return -1;
        }
        room(orders.size() < 60);
        d.waits = false;
        return makeOrder(d);
    }

    private int makeOrder(Doubt letter) {
        Order order = new Order();
        int total = total(letter.codes, letter.many);
        order.day = today;
        order.money = letter.money;
        order.post = due(total) - total;
        order.credit = letter.money - due(total);
        for (int line = 0; line < letter.codes.size(); line++) {
            if (known(letter.codes.get(line))) {
                Want want = new Want();
                want.thing = byCode(letter.codes.get(line));
                want.many = letter.many.get(line);
                want.price = costs(want.thing, today);
                order.wants.add(want);
            }
        }
        orders.add(order);
        return orders.size() - 1;
    }

    public int days(int n) {
        argument(n >= 0 && n <= 100);
        for (int i = 0; i < n; i++) {
            today = Math.min(999, today + 1);
            for (int[] coming : comings) {
                if (coming[1] == today) {
                    stocks.merge(coming[0], coming[2], Integer::sum);
                }
            }
            comings.removeIf(coming -> coming[1] == today);
            for (Order order : orders) {
                serve(order);
            }
        }
        return today;
    }

    private void serve(Order order) {
        List<Integer> pieces = new ArrayList<>();
        for (Want want : order.wants) {
            while (want.left() > 0 && stocks.get(want.thing) > 0) {
                stocks.merge(want.thing, -1, Integer::sum);
                want.sentDays.add(today);
                pieces.add(things.get(want.thing).weight());
            }
            int left = want.left();
            if (left > 0 && today > order.day + numbers.get("behind")) {
                int other = places.getOrDefault(want.thing, -1);
                if (other >= 0 && stocks.get(other) >= left) {
                    stocks.merge(other, -left, Integer::sum);
                    want.placedDays.addAll(Collections.nCopies(left, today));
                    want.placedBy = other;
                    pieces.addAll(Collections.nCopies(left, things.get(other).weight()));
                } else {
                    want.cancelled += left;
                    order.credit += left * want.price;
                }
            }
        }
        if (!pieces.isEmpty() && sendings.size() < 300) {
            sendings.add(new int[] {orders.indexOf(order), today, pieces.size(), parcels(pieces)});
        }
    }

    private static int parcels(List<Integer> pieces) {
        pieces.sort(Collections.reverseOrder());
        List<Integer> parcels = new ArrayList<>();
        for (int weight : pieces) {
            int at = 0;
            while (at < parcels.size() && parcels.get(at) + weight > 2000) {
                at++;
            }
            if (at == parcels.size()) {
                parcels.add(0);
            }
            parcels.set(at, parcels.get(at) + weight);
        }
        return parcels.size();
    }

    public int order(int order, int what) {
        index(order, orders);
        element(what >= 0 && what <= 5);
        Order o = orders.get(order);
        int left = o.wants.stream().mapToInt(Want::left).sum();
        return List.of(o.day, o.wants.size(), o.money, o.credit, left, o.post).get(what);
    }

    public int want(int order, int want, int what) {
        index(order, orders);
        index(want, orders.get(order).wants);
        element(what >= 0 && what <= 8);
        Want w = orders.get(order).wants.get(want);
        return List.of(w.thing, w.many, w.price, w.sentDays.size(), w.placedDays.size(), w.cancelled,
                w.placedOut + w.sentOut, w.last(), w.placedBy).get(what);
    }

    public boolean back(int order, int want, int many) {
        index(order, orders);
        index(want, orders.get(order).wants);
        argument(many >= 1 && many <= 99);
        Want w = orders.get(order).wants.get(want);
        int out = w.sentDays.size() + w.placedDays.size() - w.sentOut - w.placedOut;
        if (many > out || today > w.last() + numbers.get("back")) {
            return false;
        }
        for (int i = 0; i < many; i++) {
            if (w.placedOut < w.placedDays.size()) {
                w.placedOut++;
                stocks.merge(w.placedBy, 1, Integer::sum);
            } else {
                w.sentOut++;
                stocks.merge(w.thing, 1, Integer::sum);
            }
            orders.get(order).credit += w.price;
        }
        return true;
    }

    public int sending(int sending, int what) {
        index(sending, sendings);
        element(what >= 0 && what <= 3);
        return sendings.get(sending)[what];
    }

    public int pick(int thing) {
        index(thing, things);
        if (picks.contains(thing) || picks.size() == 10) {
            return -1;
        }
        picks.add(thing);
        return picks.size();
    }

    public int walk() {
        int[][] places = new int[picks.size()][];
        for (int i = 0; i < places.length; i++) {
            Thing thing = things.get(picks.get(i));
            places[i] = new int[] {thing.street(), thing.place()};
        }
        picks.clear();
        return WalkTest.least(places);
    }

    public int foretold(int thing, int from, int share, int lot, int what) {
        index(thing, things);
        argument(from >= 0 && from <= 999 && share >= 1 && share <= 1000 && lot >= 1 && lot <= 1000);
        element(what >= 0 && what <= 2);
        long sales = 0;
        for (Order order : orders) {
            for (Want want : order.wants) {
                boolean counts = want.thing == thing && order.day >= from && order.day <= from + 13;
                sales += counts ? want.many : 0;
            }
        }
        long whole = -Math.floorDiv(-sales * 1000, (long) share);
        long bought = whole - sales - stocks.get(thing);
        for (int[] coming : comings) {
            bought -= coming[0] == thing ? coming[2] : 0;
        }
        long lots = 0;
        while (lots < bought) {
            lots += lot;
        }
        return (int) (what == 0 ? sales : what == 1 ? whole : lots);
    }

    public int count(int what) {
        Map<Integer, Integer> counts = new LinkedHashMap<>();
        counts.put(0, today);
        counts.put(1, things.size());
        counts.put(2, orders.size());
        counts.put(3, (int) doubts.stream().filter(d -> d.waits).count());
        counts.put(4, sendings.size());
        counts.put(5, picks.size());
        counts.put(6, mended);
        counts.put(7, orders.stream().mapToInt(o -> o.money).sum());
        counts.put(8, orders.stream().mapToInt(o -> o.credit).sum());
        counts.put(9, comings.stream().mapToInt(c -> c[2]).sum());
        return counts.getOrDefault(what, -1);
    }

    private void takeTokens() {
        byte[] bytes = new byte[tape.size()];
        for (int i = 0; i < bytes.length; i++) {
            bytes[i] = tape.get(i);
        }
        tape.clear();
        textLength = bytes.length;
        tokens = new ArrayList<>();
        Matcher matcher = TOKEN.matcher(new String(bytes, StandardCharsets.ISO_8859_1));
        while (matcher.find()) {
            tokens.add(new Token(matcher.group(), matcher.start()));
        }
    }

    private String text(int token) {
        return token < tokens.size() ? tokens.get(token).text() : "";
    }

    private void need(boolean fine, int token) {
        if (!fine) {
            wrong = token < tokens.size() ? tokens.get(token).begin() : textLength;
            throw new IllegalArgumentException();
        }
    }

    private static boolean isNumber(String text, int least, int most) {
        return text.matches("[0-9]{1,6}") && Integer.parseInt(text) >= least && Integer.parseInt(text) <= most;
    }

    private static String four(int code) {
        return String.format("%04d", code);
    }

    private int byCode(String code) {
        for (int i = 0; i < things.size(); i++) {
            if (four(things.get(i).code()).equals(code)) {
                return i;
            }
        }
        return -1;
    }

    private boolean known(String code) {
        return byCode(code) >= 0 && costs(byCode(code), today) >= 0;
    }

    private boolean allKnown(List<String> codes) {
        return codes.stream().allMatch(this::known);
    }

    private int total(List<String> codes, List<Integer> many) {
        int total = 0;
        for (int line = 0; line < codes.size(); line++) {
            total += known(codes.get(line)) ? costs(byCode(codes.get(line)), today) * many.get(line) : 0;
        }
        return total;
    }

    private int due(int total) {
        return total + (total < numbers.get("free") ? numbers.get("post") : 0);
    }

    private static void argument(boolean fine) {
        if (!fine) {
            throw new IllegalArgumentException();
        }
    }

    private static void room(boolean fine) {
        if (!fine) {
            throw new UnsupportedOperationException();
        }
    }

    private static void element(boolean fine) {
        if (!fine) {
            throw new NoSuchElementException();
        }
    }

    private static void index(int number, List<?> list) {
        if (number < 0 || number >= list.size()) {
            throw new IndexOutOfBoundsException();
        }
    }

    @Override
    public String toString() {
        return "day " + today + ", " + orders.size() + " orders, " + Arrays.toString(places.values().toArray());
    }
}
