import java.util.NoSuchElementException;

/** A house that sells by post from a printed book; the document's promises are its face. */
public final class PostHouse {
    public static final int NONE = -1;

    private static final int LAST_DAY = 999;
    private static final int MOST_CODE = 9999;
    private static final int MOST_WEIGHT = 2000;
    private static final int STREETS = 8;
    private static final int MOST_PLACE = 20;
    private static final int MOST_MONEY = 10000;
    private static final int MOST_THINGS = 30;
    private static final int MOST_PRICES = 4;
    private static final int MOST_COMINGS = 60;
    private static final int MOST_COMING_PIECES = 10000;
    private static final int MOST_LINES = 8;
    private static final int MOST_PIECES = 99;
    private static final int MOST_SUM = 999999;
    private static final int MOST_ORDERS = 60;
    private static final int MOST_WAITING = 20;
    private static final int MOST_SENDINGS = 300;
    private static final int MOST_PICKS = 10;
    private static final int MOST_DAYS = 100;
    private static final int MOST_SHARE = 1000;
    private static final int MOST_LOT = 1000;
    private static final int SALES_DAYS = 14;
    // Each doubt needs a feed() and a letter() of its own, so the 512 calls of an object never fill this.
    private static final int MOST_DOUBTS = 512;

    private final Tape tape = new Tape();
    private final Book book = new Book();
    private final Comings comings = new Comings();
    private final Rules rules = new Rules();
    private final Rules draft = new Rules();
    private final Letter[] doubts = new Letter[MOST_DOUBTS];
    private final Order[] orders = new Order[MOST_ORDERS];
    private final Sending[] sendings = new Sending[MOST_SENDINGS];
    private final Packing packing = new Packing();
    private final Walk walk = new Walk();
    private int doubtCount;
    private int orderCount;
    private int sendingCount;
    private int mendedAtOnce;
    private int fault = NONE;
    private int today;

    public PostHouse() {
    }

    public int feed(int a, int b, int c, int d, int e) {
        if (!tape.hasRoom()) {
            return NONE;
        }
        tape.put(a);
        tape.put(b);
        tape.put(c);
        tape.put(d);
        tape.put(e);
        return tape.length;
    }

    public boolean end(int n) {
        if (n < 0 || n > tape.length) {
            return false;
        }
        tape.length = n;
        return true;
    }

    public int thing(int code, int weight, int street, int place)
            throws IllegalArgumentException, UnsupportedOperationException {
        if (!within(code, 0, MOST_CODE) || !within(weight, 1, MOST_WEIGHT)
                || !within(street, 0, STREETS - 1) || !within(place, 1, MOST_PLACE)) {
            throw new IllegalArgumentException("a number of the thing is out of its bounds");
        }
        if (book.ofCode(code) != null) {
            throw new IllegalArgumentException("there is a thing of that code");
        }
        if (book.size >= MOST_THINGS) {
            throw new UnsupportedOperationException("the book is full");
        }
        return book.add(code, weight, street, place);
    }

    public int price(int thing, int money, int from, int to)
            throws IndexOutOfBoundsException, IllegalArgumentException, UnsupportedOperationException {
        Thing priced = thingAt(thing);
        if (!within(money, 1, MOST_MONEY) || !within(from, 0, LAST_DAY) || !within(to, from, LAST_DAY)) {
            throw new IllegalArgumentException("a number of the price is out of its bounds");
        }
        if (priced.prices >= MOST_PRICES) {
            throw new UnsupportedOperationException("the thing has all its prices");
        }
        return priced.addPrice(money, from, to);
    }

    public int costs(int thing, int day) throws IndexOutOfBoundsException {
        return thingAt(thing).moneyOn(day);
    }

    public int coming(int thing, int day, int many)
            throws IndexOutOfBoundsException, IllegalArgumentException, UnsupportedOperationException {
        Thing comer = thingAt(thing);
        if (!within(day, today + 1, LAST_DAY) || !within(many, 1, MOST_COMING_PIECES)) {
            throw new IllegalArgumentException("the day or how many is out of its bounds");
        }
        if (comings.size >= MOST_COMINGS) {
            throw new UnsupportedOperationException("too much is coming");
        }
        return comings.add(comer, day, many);
    }

    public int stock(int thing) throws IndexOutOfBoundsException {
        return thingAt(thing).stock;
    }

    public int rules() throws IllegalArgumentException {
        draft.copy(rules);
        tape.open();
        int many = 0;
        boolean more = true;
        for (int i = 0; i < Tape.MOST_BYTES && more; i++) {
            readRule();
            many++;
            more = tape.takesSign(';');
        }
        closeTape();
        if (fault != NONE) {
            throw new IllegalArgumentException("the text of the rules is wrong");
        }
        rules.copy(draft);
        return many;
    }

    public int says(int what) throws NoSuchElementException {
        if (!within(what, 0, Rules.KINDS - 1)) {
            throw new NoSuchElementException("the rules say nothing else");
        }
        return rules.numbers[what];
    }

    public int instead(int thing) throws IndexOutOfBoundsException {
        return rules.places[thingAt(thing).number];
    }

    public int letter() throws IllegalArgumentException, UnsupportedOperationException {
        Letter read = new Letter();
        tape.open();
        readLetter(read);
        closeTape();
        if (fault != NONE) {
            throw new IllegalArgumentException("the text of the letter is wrong");
        }
        boolean clear = mend(read);
        if (clear && isPaid(read)) {
            needRoomForOrder();
            if (read.mendings == 1) {
                mendedAtOnce++;
            }
            return makeOrder(read);
        }
        if (waitingDoubts() >= MOST_WAITING || doubtCount >= MOST_DOUBTS) {
            throw new UnsupportedOperationException("too many doubts wait");
        }
        read.waits = true;
        doubts[doubtCount] = read;
        doubtCount++;
        return NONE - doubtCount;
    }

    public int fault() {
        return fault;
    }

    public int doubt(int doubt, int what) throws IndexOutOfBoundsException, NoSuchElementException {
        Letter asked = doubtAt(doubt);
        switch (what) {
            case 0:
                return asked.waits ? 1 : 0;
            case 1:
                return asked.mendings;
            case 2:
                return asked.lines;
            case 3:
                return asked.known;
            case 4:
                return asked.sum;
            case 5:
                return asked.money;
            default:
                throw new NoSuchElementException("a doubt has nothing else");
        }
    }

    public int settle(int doubt, boolean take)
            throws IndexOutOfBoundsException, IllegalStateException, UnsupportedOperationException {
        Letter settled = doubtAt(doubt);
        if (!settled.waits) {
            throw new IllegalStateException("the doubt does not wait");
        }
        if (!take) {
            settled.waits = false;
            return NONE;
        }
        if (!isPaid(settled)) {
            return NONE;
        }
        needRoomForOrder();
        settled.waits = false;
        return makeOrder(settled);
    }

    public int days(int n) throws IllegalArgumentException {
        if (!within(n, 0, MOST_DAYS)) {
            throw new IllegalArgumentException("so many days can not pass");
        }
        // On the last day a second pass in one call would find nothing that the first one left to do.
        for (int i = 0; i < n && (i == 0 || today < LAST_DAY); i++) {
            passDay();
        }
        return today;
    }

    public int order(int order, int what) throws IndexOutOfBoundsException, NoSuchElementException {
        Order asked = orderAt(order);
        switch (what) {
            case 0:
                return asked.day;
            case 1:
                return asked.size;
            case 2:
                return asked.money;
            case 3:
                return asked.credit;
            case 4:
                return asked.piecesLeft();
            case 5:
                return asked.post;
            default:
                throw new NoSuchElementException("an order has nothing else");
        }
    }

    public int want(int order, int want, int what) throws IndexOutOfBoundsException, NoSuchElementException {
        Want asked = wantAt(orderAt(order), want);
        switch (what) {
            case 0:
                return asked.thing.number;
            case 1:
                return asked.many;
            case 2:
                return asked.price;
            case 3:
                return asked.sent;
            case 4:
                return asked.placed;
            case 5:
                return asked.cancelled;
            case 6:
                return asked.sentBack + asked.placedBack;
            case 7:
                return asked.cameLast;
            case 8:
                return asked.other == null ? NONE : asked.other.number;
            default:
                throw new NoSuchElementException("a want has nothing else");
        }
    }

    public boolean back(int order, int want, int many) throws IndexOutOfBoundsException, IllegalArgumentException {
        Order returned = orderAt(order);
        Want from = wantAt(returned, want);
        if (!within(many, 1, MOST_PIECES)) {
            throw new IllegalArgumentException("so many can not come back");
        }
        if (many > from.piecesOut() || today - from.cameLast > rules.numbers[Rules.BACK]) {
            return false;
        }
        from.takeBack(many);
        returned.credit += many * from.price;
        return true;
    }

    public int sending(int sending, int what) throws IndexOutOfBoundsException, NoSuchElementException {
        if (!within(sending, 0, sendingCount - 1)) {
            throw new IndexOutOfBoundsException("no such sending");
        }
        Sending asked = sendings[sending];
        switch (what) {
            case 0:
                return asked.order;
            case 1:
                return asked.day;
            case 2:
                return asked.pieces;
            case 3:
                return asked.parcels;
            default:
                throw new NoSuchElementException("a sending has nothing else");
        }
    }

    public int pick(int thing) throws IndexOutOfBoundsException {
        return walk.add(thingAt(thing));
    }

    public int walk() {
        int steps = walk.leastSteps();
        walk.size = 0;
        return steps;
    }

    public int foretold(int thing, int from, int share, int lot, int what)
            throws IndexOutOfBoundsException, IllegalArgumentException, NoSuchElementException {
        Thing asked = thingAt(thing);
        if (!within(from, 0, LAST_DAY) || !within(share, 1, MOST_SHARE) || !within(lot, 1, MOST_LOT)) {
            throw new IllegalArgumentException("a number of the foretelling is out of its bounds");
        }
        int sales = salesOf(asked, from);
        int whole = roundedUp(sales * MOST_SHARE, share);
        switch (what) {
            case 0:
                return sales;
            case 1:
                return whole;
            case 2:
                int missing = whole - sales - asked.stock - comings.piecesOf(asked);
                return roundedUp(Math.max(missing, 0), lot) * lot;
            default:
                throw new NoSuchElementException("nothing else is foretold");
        }
    }

    public int count(int what) {
        switch (what) {
            case 0:
                return today;
            case 1:
                return book.size;
            case 2:
                return orderCount;
            case 3:
                return waitingDoubts();
            case 4:
                return sendingCount;
            case 5:
                return walk.size;
            case 6:
                return mendedAtOnce;
            case 7:
                return moneyOfOrders();
            case 8:
                return creditOfOrders();
            case 9:
                return comings.allPieces();
            default:
                return NONE;
        }
    }

    private static boolean within(int number, int least, int most) {
        return number >= least && number <= most;
    }

    private static int roundedUp(int number, int divisor) {
        return divisor < 1 ? 0 : (number + divisor - 1) / divisor;
    }

    private Thing thingAt(int number) {
        Thing found = book.at(number);
        if (found == null) {
            throw new IndexOutOfBoundsException("no such thing");
        }
        return found;
    }

    private Letter doubtAt(int number) {
        if (!within(number, 0, doubtCount - 1)) {
            throw new IndexOutOfBoundsException("no such doubt");
        }
        return doubts[number];
    }

    private Order orderAt(int number) {
        if (!within(number, 0, orderCount - 1)) {
            throw new IndexOutOfBoundsException("no such order");
        }
        return orders[number];
    }

    private static Want wantAt(Order order, int number) {
        if (!within(number, 0, order.size - 1)) {
            throw new IndexOutOfBoundsException("no such want");
        }
        return order.wants[number];
    }

    private void needRoomForOrder() {
        if (orderCount >= MOST_ORDERS) {
            throw new UnsupportedOperationException("there are all the orders that can be");
        }
    }

    private void closeTape() {
        tape.needEnd();
        fault = tape.wrong;
        tape.length = 0;
    }

    private void readRule() {
        if (tape.takesWord("place")) {
            readPlace();
            return;
        }
        int kind = readKind();
        if (kind == NONE) {
            tape.refuse(tape.next);
        } else {
            draft.numbers[kind] = tape.number(0, Rules.MOST[kind]);
        }
    }

    private int readKind() {
        if (tape.takesWord("behind")) {
            return Rules.BEHIND;
        }
        if (tape.takesWord("post")) {
            return Rules.POST;
        }
        if (tape.takesWord("free")) {
            return Rules.FREE;
        }
        return tape.takesWord("back") ? Rules.BACK : NONE;
    }

    private void readPlace() {
        Thing wanted = readThing(null);
        tape.needWord("by");
        Thing other = readThing(wanted);
        if (wanted != null && other != null) {
            draft.places[wanted.number] = other.number;
        }
    }

    private Thing readThing(Thing unlike) {
        int begin = tape.next;
        Thing told = book.ofCode(tape.code());
        if (told == null || told == unlike) {
            tape.refuse(begin);
            return null;
        }
        return told;
    }

    private void readLetter(Letter read) {
        boolean more = true;
        for (int line = 0; line < MOST_LINES && more; line++) {
            int code = tape.code();
            tape.needWord("x");
            read.addLine(code, tape.number(1, MOST_PIECES));
            more = line + 1 < MOST_LINES && tape.takesSign(',');
        }
        tape.needWord("sum");
        read.sum = tape.number(0, MOST_SUM);
        read.money = tape.takesWord("money") ? tape.number(0, MOST_SUM) : read.sum;
    }

    /** Reads a letter against the book, mended where there is just one way to; true if it is plain or mended. */
    private boolean mend(Letter read) {
        boolean plain = totalBut(read, NONE) == read.sum;
        if (!plain) {
            findMendings(read);
        }
        boolean mended = read.mendings == 1;
        if (mended) {
            read.codes[read.mendedLine] = read.mendedCode;
        }
        read.known = knownLines(read);
        return plain || mended;
    }

    private void findMendings(Letter read) {
        for (int line = 0; line < read.lines; line++) {
            int rest = totalBut(read, line);
            for (int i = 0; i < book.size && rest != NONE; i++) {
                Thing thing = book.things[i];
                int money = thing.moneyOn(today);
                if (money != NONE && rest + money * read.pieces[line] == read.sum
                        && unlikeDigits(thing.code, read.codes[line]) == 1) {
                    read.mendings++;
                    read.mendedLine = line;
                    read.mendedCode = thing.code;
                }
            }
        }
    }

    private static int unlikeDigits(int code, int other) {
        int unlike = 0;
        for (int unit = 1; unit <= MOST_CODE; unit *= 10) {
            if (code / unit % 10 != other / unit % 10) {
                unlike++;
            }
        }
        return unlike;
    }

    /** The thing of a code if it is sold today, else null. */
    private Thing soldToday(int code) {
        Thing found = book.ofCode(code);
        return found == null || found.moneyOn(today) == NONE ? null : found;
    }

    /** The total of all lines but one; NONE if one of these is not known. */
    private int totalBut(Letter read, int left) {
        int total = 0;
        for (int line = 0; line < read.lines; line++) {
            if (line != left) {
                Thing thing = soldToday(read.codes[line]);
                if (thing == null) {
                    return NONE;
                }
                total += thing.moneyOn(today) * read.pieces[line];
            }
        }
        return total;
    }

    private int knownLines(Letter read) {
        int known = 0;
        for (int line = 0; line < read.lines; line++) {
            if (soldToday(read.codes[line]) != null) {
                known++;
            }
        }
        return known;
    }

    private int totalOfKnown(Letter read) {
        int total = 0;
        for (int line = 0; line < read.lines; line++) {
            Thing thing = soldToday(read.codes[line]);
            if (thing != null) {
                total += thing.moneyOn(today) * read.pieces[line];
            }
        }
        return total;
    }

    private boolean isPaid(Letter read) {
        int total = totalOfKnown(read);
        // Every price is 1 at least: without a known line, and only then, there is no total.
        return total > 0 && read.money >= total + rules.postOf(total);
    }

    private int makeOrder(Letter read) {
        int total = totalOfKnown(read);
        Order made = new Order(today, read.money, rules.postOf(total), total);
        for (int line = 0; line < read.lines; line++) {
            Thing thing = soldToday(read.codes[line]);
            if (thing != null) {
                made.add(new Want(thing, read.pieces[line], thing.moneyOn(today)));
            }
        }
        orders[orderCount] = made;
        orderCount++;
        return orderCount - 1;
    }

    private int waitingDoubts() {
        int waiting = 0;
        for (int i = 0; i < doubtCount; i++) {
            if (doubts[i].waits) {
                waiting++;
            }
        }
        return waiting;
    }

    private void passDay() {
        if (today < LAST_DAY) {
            today++;
        }
        comings.arrive(today);
        for (int i = 0; i < orderCount; i++) {
            serve(i);
        }
    }

    private void serve(int number) {
        Order order = orders[number];
        packing.clear();
        for (int i = 0; i < order.size; i++) {
            serveWant(order, order.wants[i]);
        }
        if (packing.pieces > 0 && sendingCount < MOST_SENDINGS) {
            sendings[sendingCount] = new Sending(number, today, packing.pieces, packing.parcels());
            sendingCount++;
        }
    }

    private void serveWant(Order order, Want want) {
        int ready = Math.min(want.left(), want.thing.stock);
        if (ready > 0) {
            want.sent += ready;
            ship(want, want.thing, ready);
        }
        if (want.left() > 0 && today - order.day > rules.numbers[Rules.BEHIND]) {
            placeOrCancel(order, want);
        }
    }

    private void placeOrCancel(Order order, Want want) {
        int left = want.left();
        Thing other = book.at(rules.places[want.thing.number]);
        if (other != null && other.stock >= left) {
            want.placed += left;
            want.other = other;
            ship(want, other, left);
        } else {
            want.cancelled += left;
            order.credit += left * want.price;
        }
    }

    private void ship(Want want, Thing thing, int pieces) {
        thing.stock -= pieces;
        want.cameLast = today;
        packing.add(thing.weight, pieces);
    }

    private int salesOf(Thing thing, int from) {
        int sales = 0;
        for (int i = 0; i < orderCount; i++) {
            if (within(orders[i].day, from, from + SALES_DAYS - 1)) {
                sales += orders[i].manyOf(thing);
            }
        }
        return sales;
    }

    private int moneyOfOrders() {
        int money = 0;
        for (int i = 0; i < orderCount; i++) {
            money += orders[i].money;
        }
        return money;
    }

    private int creditOfOrders() {
        int credit = 0;
        for (int i = 0; i < orderCount; i++) {
            credit += orders[i].credit;
        }
        return credit;
    }

    /**
     * The bytes that were fed, and the reading of them. What cannot stand where it does is kept as wrong, the
     * first one alone; so a reader need not stop there, if it asks for the wrong byte at its end.
     */
    private static final class Tape {
        static final int MOST_BYTES = 400;
        private static final int FED_BYTES = 20;
        private static final int BLANK = 32;
        private static final int CODE_DIGITS = 4;
        private static final int MOST_DIGITS = 6;

        private final byte[] bytes = new byte[MOST_BYTES];
        int length;
        int next;
        int wrong = NONE;

        boolean hasRoom() {
            return length + FED_BYTES <= MOST_BYTES;
        }

        void put(int number) {
            for (int shift = 24; shift >= 0 && length < MOST_BYTES; shift -= 8) {
                bytes[length] = (byte) (number >> shift);
                length++;
            }
        }

        void open() {
            wrong = NONE;
            next = 0;
            skip(0);
        }

        void refuse(int place) {
            if (wrong == NONE) {
                wrong = place;
            }
        }

        boolean takesWord(String word) {
            int size = word.length();
            if (run('a', 'z') != size) {
                return false;
            }
            for (int i = 0; i < size && next + i < length; i++) {
                if (bytes[next + i] != word.charAt(i)) {
                    return false;
                }
            }
            skip(size);
            return true;
        }

        void needWord(String word) {
            if (!takesWord(word)) {
                refuse(next);
            }
        }

        boolean takesSign(char sign) {
            if (next >= length || bytes[next] != sign) {
                return false;
            }
            skip(1);
            return true;
        }

        void needEnd() {
            if (next < length) {
                refuse(next);
            }
        }

        int code() {
            return digits(CODE_DIGITS, CODE_DIGITS, 0, MOST_CODE);
        }

        int number(int least, int most) {
            return digits(1, MOST_DIGITS, least, most);
        }

        private int digits(int fewest, int mostDigits, int least, int most) {
            int size = run('0', '9');
            int value = size < fewest || size > mostDigits ? NONE : value(size);
            if (value < least || value > most) {
                refuse(next);
                return NONE;
            }
            skip(size);
            return value;
        }

        private int value(int size) {
            int value = 0;
            for (int i = next; i < next + size && i < length; i++) {
                value = value * 10 + bytes[i] - '0';
            }
            return value;
        }

        private int run(char first, char last) {
            int end = next;
            while (end < length && bytes[end] >= first && bytes[end] <= last) {
                end++;
            }
            return end - next;
        }

        private void skip(int size) {
            next += size;
            while (next < length && bytes[next] == BLANK) {
                next++;
            }
        }
    }

    private static final class Thing {
        final int number;
        final int code;
        final int weight;
        final int street;
        final int place;
        int stock;
        int prices;
        private final int[] moneys = new int[MOST_PRICES];
        private final int[] froms = new int[MOST_PRICES];
        private final int[] tos = new int[MOST_PRICES];

        Thing(int number, int code, int weight, int street, int place) {
            this.number = number;
            this.code = code;
            this.weight = weight;
            this.street = street;
            this.place = place;
        }

        int addPrice(int money, int from, int to) {
            if (prices < MOST_PRICES) {
                moneys[prices] = money;
                froms[prices] = from;
                tos[prices] = to;
                prices++;
            }
            return prices;
        }

        int moneyOn(int day) {
            for (int i = prices - 1; i >= 0; i--) {
                if (within(day, froms[i], tos[i])) {
                    return moneys[i];
                }
            }
            return NONE;
        }
    }

    private static final class Book {
        final Thing[] things = new Thing[MOST_THINGS];
        int size;

        int add(int code, int weight, int street, int place) {
            if (size >= MOST_THINGS) {
                return NONE;
            }
            things[size] = new Thing(size, code, weight, street, place);
            size++;
            return size - 1;
        }

        Thing at(int number) {
            return within(number, 0, size - 1) ? things[number] : null;
        }

        Thing ofCode(int code) {
            for (int i = 0; i < size; i++) {
                if (things[i].code == code) {
                    return things[i];
                }
            }
            return null;
        }
    }

    private static final class Comings {
        private final Thing[] things = new Thing[MOST_COMINGS];
        private final int[] days = new int[MOST_COMINGS];
        private final int[] pieces = new int[MOST_COMINGS];
        int size;

        int add(Thing thing, int day, int many) {
            if (size < MOST_COMINGS) {
                things[size] = thing;
                days[size] = day;
                pieces[size] = many;
                size++;
            }
            return size;
        }

        void arrive(int today) {
            int kept = 0;
            for (int i = 0; i < size; i++) {
                if (days[i] == today) {
                    things[i].stock += pieces[i];
                } else {
                    things[kept] = things[i];
                    days[kept] = days[i];
                    pieces[kept] = pieces[i];
                    kept++;
                }
            }
            size = kept;
        }

        int piecesOf(Thing thing) {
            int sum = 0;
            for (int i = 0; i < size; i++) {
                if (things[i] == thing) {
                    sum += pieces[i];
                }
            }
            return sum;
        }

        int allPieces() {
            int sum = 0;
            for (int i = 0; i < size; i++) {
                sum += pieces[i];
            }
            return sum;
        }
    }

    private static final class Rules {
        static final int BEHIND = 0;
        static final int POST = 1;
        static final int FREE = 2;
        static final int BACK = 3;
        static final int KINDS = 4;
        static final int[] MOST = {99, 9999, 999999, 99};

        final int[] numbers = {10, 50, 10000, 14};
        final int[] places = new int[MOST_THINGS];

        Rules() {
            for (int i = 0; i < MOST_THINGS; i++) {
                places[i] = NONE;
            }
        }

        void copy(Rules other) {
            System.arraycopy(other.numbers, 0, numbers, 0, KINDS);
            System.arraycopy(other.places, 0, places, 0, MOST_THINGS);
        }

        int postOf(int total) {
            return total < numbers[FREE] ? numbers[POST] : 0;
        }
    }

    /** A letter as it was read; it is kept as long as it is in doubt, and behind that, to be asked for. */
    private static final class Letter {
        // Codes, not things: a code of nothing today may be a thing's on the day it is settled.
        final int[] codes = new int[MOST_LINES];
        final int[] pieces = new int[MOST_LINES];
        int lines;
        int sum;
        int money;
        int mendings;
        int mendedLine;
        int mendedCode;
        int known;
        boolean waits;

        void addLine(int code, int many) {
            if (lines < MOST_LINES) {
                codes[lines] = code;
                pieces[lines] = many;
                lines++;
            }
        }
    }

    private static final class Want {
        final Thing thing;
        final int many;
        final int price;
        int sent;
        int placed;
        int cancelled;
        // Told apart, as pieces of what was sent may come back before anything is placed.
        int sentBack;
        int placedBack;
        int cameLast = NONE;
        Thing other;

        Want(Thing thing, int many, int price) {
            this.thing = thing;
            this.many = many;
            this.price = price;
        }

        int left() {
            return many - sent - placed - cancelled;
        }

        int piecesOut() {
            return sent + placed - sentBack - placedBack;
        }

        void takeBack(int pieces) {
            int ofPlaced = Math.min(pieces, placed - placedBack);
            if (other != null) {
                other.stock += ofPlaced;
            }
            placedBack += ofPlaced;
            thing.stock += pieces - ofPlaced;
            sentBack += pieces - ofPlaced;
        }
    }

    private static final class Order {
        final int day;
        final int money;
        final int post;
        final Want[] wants = new Want[MOST_LINES];
        int credit;
        int size;

        Order(int day, int money, int post, int total) {
            this.day = day;
            this.money = money;
            this.post = post;
            credit = money - total - post;
        }

        void add(Want want) {
            if (size < MOST_LINES) {
                wants[size] = want;
                size++;
            }
        }

        int piecesLeft() {
            int left = 0;
            for (int i = 0; i < size; i++) {
                left += wants[i].left();
            }
            return left;
        }

        int manyOf(Thing thing) {
            int many = 0;
            for (int i = 0; i < size; i++) {
                if (wants[i].thing == thing) {
                    many += wants[i].many;
                }
            }
            return many;
        }
    }

    private static final class Sending {
        final int order;
        final int day;
        final int pieces;
        final int parcels;

        Sending(int order, int day, int pieces, int parcels) {
            this.order = order;
            this.day = day;
            this.pieces = pieces;
            this.parcels = parcels;
        }
    }

    /** The pieces of one sending, heavy ones first; pieces of one weight are packed at once. */
    private static final class Packing {
        private static final int MOST_LOAD = 2000;
        // A want may be sent from one stock and placed from another on the same day.
        private static final int MOST_KINDS = 2 * MOST_LINES;
        private static final int MOST_PARCELS = MOST_LINES * MOST_PIECES;

        private final int[] weights = new int[MOST_KINDS];
        private final int[] counts = new int[MOST_KINDS];
        private final int[] loads = new int[MOST_PARCELS];
        private int kinds;
        int pieces;

        void clear() {
            kinds = 0;
            pieces = 0;
        }

        void add(int weight, int many) {
            if (kinds >= MOST_KINDS) {
                return;
            }
            int at = kinds;
            while (at > 0 && weights[at - 1] < weight) {
                weights[at] = weights[at - 1];
                counts[at] = counts[at - 1];
                at--;
            }
            weights[at] = weight;
            counts[at] = many;
            kinds++;
            pieces += many;
        }

        int parcels() {
            int parcels = 0;
            for (int kind = 0; kind < kinds; kind++) {
                int weight = weights[kind];
                int left = counts[kind];
                // A parcel too full for one piece is too full for the next of its weight: one pass does.
                for (int i = 0; i < MOST_PARCELS && left > 0 && weight > 0; i++) {
                    if (i == parcels) {
                        loads[i] = 0;
                        parcels++;
                    }
                    int fit = Math.min(left, (MOST_LOAD - loads[i]) / weight);
                    loads[i] += fit * weight;
                    left -= fit;
                }
            }
            return parcels;
        }
    }

    /**
     * The picks, and the least closed way by them. A least way walks no stretch more than twice, each crossing
     * is left as often as it is come to, and all of it hangs together; any stretches of which that is true can be
     * walked in one round. So the streets are gone through from 0 on, and of all that lies behind only this
     * counts: how often each lane is walked to the next street, and whether the front part and the back part
     * hang together already.
     */
    private static final class Walk {
        private static final int STREET_LENGTH = 21;
        private static final int STREET_WIDTH = 6;
        private static final int FAR = 1000000;

        // Lanes between two streets: how often the front one and the back one are walked.
        private static final int ROUND = 0;
        private static final int BOTH_JOINED = 3;
        private static final int BOTH_APART = 4;
        private static final int NO_LANE = 5;
        private static final int LANES = 6;
        private static final int[] LANE_FRONT = {1, 2, 0, 2, 2, 0};
        private static final int[] LANE_BACK = {1, 0, 2, 2, 2, 0};

        // Ways in a street: how often its front end and its back end are touched.
        private static final int THROUGH = 0;
        private static final int TWICE_THROUGH = 1;
        private static final int FROM_FRONT = 2;
        private static final int FROM_BACK = 3;
        private static final int FROM_BOTH = 4;
        private static final int NOT_AT_ALL = 5;
        private static final int WAYS = 6;
        private static final int[] WAY_FRONT = {1, 2, 2, 0, 2, 0};
        private static final int[] WAY_BACK = {1, 2, 0, 2, 2, 0};

        private final Thing[] picks = new Thing[MOST_PICKS];
        int size;
        private final boolean[] marked = new boolean[STREET_LENGTH];
        private final int[] waySteps = new int[WAYS];
        private final int[] best = new int[LANES];
        private final int[] nextBest = new int[LANES];

        int add(Thing thing) {
            for (int i = 0; i < size; i++) {
                if (picks[i] == thing) {
                    return NONE;
                }
            }
            if (size >= MOST_PICKS) {
                return NONE;
            }
            picks[size] = thing;
            size++;
            return size;
        }

        int leastSteps() {
            if (size == 0) {
                return 0;
            }
            for (int lane = 0; lane < LANES; lane++) {
                best[lane] = lane == NO_LANE ? 0 : FAR;
            }
            int last = lastStreet();
            for (int street = 0; street < last; street++) {
                measure(street);
                goToNextStreet();
            }
            measure(last);
            return leastInto(NO_LANE);
        }

        private int lastStreet() {
            int last = 0;
            for (int i = 0; i < size; i++) {
                last = Math.max(last, picks[i].street);
            }
            return last;
        }

        private void measure(int street) {
            for (int place = 0; place < STREET_LENGTH; place++) {
                marked[place] = false;
            }
            for (int i = 0; i < size; i++) {
                if (picks[i].street == street && within(picks[i].place, 1, MOST_PLACE)) {
                    marked[picks[i].place] = true;
                }
            }
            int lowest = STREET_LENGTH;
            int highest = 0;
            int widest = 0;
            for (int place = 1; place < STREET_LENGTH; place++) {
                if (marked[place]) {
                    widest = highest == 0 ? 0 : Math.max(widest, place - highest);
                    lowest = Math.min(lowest, place);
                    highest = place;
                }
            }
            waySteps[THROUGH] = STREET_LENGTH;
            waySteps[TWICE_THROUGH] = 2 * STREET_LENGTH;
            waySteps[FROM_FRONT] = 2 * highest;
            waySteps[FROM_BACK] = 2 * (STREET_LENGTH - lowest);
            waySteps[FROM_BOTH] = 2 * (STREET_LENGTH - widest);
            waySteps[NOT_AT_ALL] = highest == 0 ? 0 : FAR;
        }

        private void goToNextStreet() {
            for (int lane = 0; lane < NO_LANE; lane++) {
                nextBest[lane] = leastInto(lane) + STREET_WIDTH * (LANE_FRONT[lane] + LANE_BACK[lane]);
            }
            nextBest[NO_LANE] = FAR;
            System.arraycopy(nextBest, 0, best, 0, LANES);
        }

        private int leastInto(int lane) {
            int least = FAR;
            for (int from = 0; from < LANES; from++) {
                for (int way = 0; way < WAYS; way++) {
                    if (fits(from, way, lane)) {
                        least = Math.min(least, best[from] + waySteps[way]);
                    }
                }
            }
            return least;
        }

        private static boolean fits(int from, int way, int lane) {
            int front = LANE_FRONT[from] + WAY_FRONT[way];
            int back = LANE_BACK[from] + WAY_BACK[way];
            if ((front + LANE_FRONT[lane]) % 2 != 0 || (back + LANE_BACK[lane]) % 2 != 0) {
                return false;
            }
            // The round begins at the front of the first street, the one that no lane leads to.
            boolean frontUsed = front > 0 || from == NO_LANE;
            boolean backUsed = back > 0;
            if (LANE_FRONT[lane] > 0 && !frontUsed || LANE_BACK[lane] > 0 && !backUsed) {
                return false;
            }
            boolean joined = from == ROUND || from == BOTH_JOINED || way == THROUGH || way == TWICE_THROUGH;
            boolean apart = frontUsed && backUsed && !joined;
            return apart == (lane == BOTH_APART);
        }
    }
}
