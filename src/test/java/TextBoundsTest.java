import java.util.NoSuchElementException;

/** The bounds that part 2 of the terms and the promises 2, 3, 9, 10, 11 and 13 name, a test for each sentence. */
public final class TextBoundsTest {
    private static final Class<IllegalArgumentException> ARGUMENT = IllegalArgumentException.class;
    private static final int BEHIND = 0;
    private static final int POST = 1;
    private static final int FREE = 2;
    private static final int BACK = 3;

    private TextBoundsTest() {
    }

    public static void main(String[] args) {
        tape();
        rulesTerms();
        letterTerms();
        formOfBoth();
        firstWrongByte();
        promises();
        Check.finish();
    }

    private static void tape() {
        Check.sentence("Twenty bytes come behind the TAPE", TextBoundsTest::twentyBytes);
        Check.sentence("of each number the highest first", TextBoundsTest::highestFirst);
        Check.sentence("NONE, and none come, if it would have more than 400", TextBoundsTest::fourHundredBytes);
        Check.sentence("The TAPE has its first n bytes alone: true", TextBoundsTest::firstBytesAlone);
        Check.sentence("false, and nothing happens, if it has fewer", TextBoundsTest::fewerBytes);
        Check.sentence("or n is below 0", TextBoundsTest::belowNoBytes);
    }

    private static void rulesTerms() {
        Check.sentence("BEHIND (days; 0 to 99; at first 10)", () -> ruleBounds("behind", BEHIND, 10, 99));
        Check.sentence("POST (0 to 9999; at first 50)", () -> ruleBounds("post", POST, 50, 9999));
        Check.sentence("FREE (0 to 999999; at first 10000)", () -> ruleBounds("free", FREE, 10000, 999999));
        Check.sentence("BACK (days; 0 to 99; at first 14)", () -> ruleBounds("back", BACK, 14, 99));
        Check.sentence("and of some THINGS another one that may come in their PLACE", TextBoundsTest::places);
        Check.sentence("Their text: RULE { ; RULE }.", TextBoundsTest::ruleByRule);
        Check.sentence("RULE: place CODE by CODE | behind NUMBER | post NUMBER | free NUMBER | back NUMBER.",
                TextBoundsTest::formsOfRules);
        Check.sentence("A CODE: just four digits", TextBoundsTest::fourDigits);
        Check.sentence("of a THING that there is", TextBoundsTest::codesOfThings);
        Check.sentence("of place two unlike ones", TextBoundsTest::twoUnlike);
        Check.sentence("a NUMBER: 1 to 6 digits", TextBoundsTest::sixDigits);
        Check.sentence("What a text does not tell stays as it is", TextBoundsTest::restStays);
        Check.sentence("of two RULES alike the later one counts", TextBoundsTest::laterCounts);
    }

    private static void letterTerms() {
        Check.sentence("A LETTER: LINE { , LINE } sum NUMBER, perhaps money NUMBER behind",
                TextBoundsTest::lineByLine);
        Check.sentence("at most 8 LINES", TextBoundsTest::eightLines);
        Check.sentence("LINE: CODE x NUMBER: any four digits", TextBoundsTest::anyFourDigits);
        Check.sentence("and how many (1 to 99)", TextBoundsTest::howMany);
        Check.sentence("NUMBERS of sum and money: 0 to 999999", TextBoundsTest::sumAndMoney);
        Check.sentence("without money it is as much as sum", TextBoundsTest::withoutMoney);
    }

    private static void formOfBoth() {
        Check.sentence("words are as long as letters a to z go on", TextBoundsTest::longWords);
        Check.sentence("digits likewise", TextBoundsTest::longDigits);
        Check.sentence("between all there may be blanks (32), also ahead and behind", TextBoundsTest::blanks);
    }

    private static void firstWrongByte() {
        Check.sentence("The first wrong byte: the begin of the first word, digits or sign that cannot stand there",
                TextBoundsTest::firstOfSeveral);
        Check.sentence("digits of another number than told", TextBoundsTest::anotherNumberOfDigits);
        Check.sentence("or out of bounds", TextBoundsTest::outOfBounds);
        Check.sentence("a CODE that may not be told", TextBoundsTest::codesNotToBeTold);
        Check.sentence("a word that is none", TextBoundsTest::wordsThatAreNone);
        Check.sentence("a , ahead of a 9th LINE", TextBoundsTest::ninthLine);
        Check.sentence("any other byte", TextBoundsTest::anyOtherByte);
        Check.sentence("the begin of the first word, digits or sign that cannot stand there",
                TextBoundsTest::signsThatAreNone);
        Check.sentence("or the text's length, if more must come", TextBoundsTest::moreMustCome);
    }

    private static void promises() {
        Check.sentence("Uses the TAPE up: RULES: how many.", TextBoundsTest::rulesAreCounted);
        Check.sentence("IllegalArgumentException: the text is wrong: all stays.", TextBoundsTest::wrongRulesLeaveAll);
        Check.sentence("What the RULES say: what 0 BEHIND, 1 POST, 2 FREE, 3 BACK.", TextBoundsTest::says);
        Check.sentence("NoSuchElementException: another what.", TextBoundsTest::saysNothingElse);
        Check.sentence("The THING that may come in the PLACE of one; NONE.", TextBoundsTest::instead);
        Check.sentence("The first wrong byte of the latest rules() or letter()", TextBoundsTest::latestFault);
        Check.sentence("NONE without one, and ahead of any.", TextBoundsTest::noFault);
    }

    private static void twentyBytes() {
        PostHouse house = new PostHouse();
        Check.due("onto an empty tape", house.feed(0, 0, 0, 0, 0), 20);
        Check.due("once more", house.feed(-1, -1, -1, -1, -1), 40);
        house.end(3);
        Check.due("behind three", house.feed(Made.LEAST, Made.MOST, 1, 2, 3), 23);
        Check.tape(house, "post");
        house.feed(0x20373700, 0, 0, 0, 0);
        house.end(7);
        house.rules();
        Check.due("behind, not ahead", house.says(POST), 77);
    }

    /** "free 123456;back 99;" is made of these five numbers. */
    private static void highestFirst() {
        PostHouse house = new PostHouse();
        house.feed(0x66726565, 0x20313233, 0x3435363b, 0x6261636b, 0x2039393b);
        house.end(19);
        Check.due("rules()", house.rules(), 2);
        Check.due("FREE", house.says(FREE), 123456);
        Check.due("BACK", house.says(BACK), 99);
    }

    private static PostHouse houseOfBytes(int many) {
        PostHouse house = new PostHouse();
        for (int i = 0; i < many; i += 20) {
            house.feed(0, 0, 0, 0, 0);
        }
        house.end(many);
        return house;
    }

    private static void fourHundredBytes() {
        PostHouse full = houseOfBytes(380);
        Check.due("to 400", full.feed(0, 0, 0, 0, 0), 400);
        Check.due("behind 400", full.feed(0, 0, 0, 0, 0), -1);
        Check.due("still 400", full.end(400), true);
        Check.due("not 401", full.end(401), false);
        PostHouse nearly = houseOfBytes(381);
        Check.due("behind 381", nearly.feed(0, 0, 0, 0, 0), -1);
        Check.due("none came", nearly.end(382), false);
        Check.due("all are there yet", nearly.end(381), true);
        nearly.end(380);
        Check.due("behind 380", nearly.feed(0, 0, 0, 0, 0), 400);
        Check.due("behind 399", houseOfBytes(399).feed(0, 0, 0, 0, 0), -1);
        wholeTapeIsRead();
    }

    /** A text of just 400 bytes: the last of them count, too. */
    private static void wholeTapeIsRead() {
        PostHouse house = new PostHouse();
        Check.due("rules of 400 bytes", Check.rules(house, "back 3;" + " ".repeat(386) + "post  9"), 2);
        Check.due("its last byte", house.says(POST), 9);
        Check.wrongRules(house, "back 3" + " ".repeat(393) + "?", 399);
        Check.wrongRules(house, "back 3;" + " ".repeat(393), 400);
    }

    private static void firstBytesAlone() {
        PostHouse house = new PostHouse();
        Check.due("none of none", house.end(0), true);
        house.feed(0x706f7374, 0x20313233, 0x34000000, 0, 0);
        Check.due("all", house.end(20), true);
        Check.due("the first 8", house.end(8), true);
        Check.due("the rest is gone", house.end(9), false);
        Check.due("rules()", house.rules(), 1);
        Check.due("POST of the first 8 bytes", house.says(POST), 123);
        house.feed(0, 0, 0, 0, 0);
        Check.due("none of 20", house.end(0), true);
        Check.due("then there are none", house.end(1), false);
    }

    private static void fewerBytes() {
        PostHouse house = new PostHouse();
        Check.due("end(1) of none", house.end(1), false);
        house.feed(0, 0, 0, 0, 0);
        Check.due("end(21) of 20", house.end(21), false);
        Check.due("end(most)", house.end(Made.MOST), false);
        Check.due("20 as they were", house.feed(0, 0, 0, 0, 0), 40);
        house.end(5);
        Check.due("end(6) of 5", house.end(6), false);
        Check.due("5 as they were", house.feed(0, 0, 0, 0, 0), 25);
    }

    private static void belowNoBytes() {
        PostHouse house = new PostHouse();
        Check.due("end(-1) of none", house.end(-1), false);
        house.feed(0, 0, 0, 0, 0);
        Check.due("end(-1)", house.end(-1), false);
        Check.due("end(least)", house.end(Made.LEAST), false);
        Check.due("20 as they were", house.feed(0, 0, 0, 0, 0), 40);
    }

    private static void ruleBounds(String word, int what, int first, int most) {
        PostHouse house = new PostHouse();
        Check.due(word + " at first", house.says(what), first);
        for (int number : new int[] {0, 1, most - 1, most}) {
            Check.due(word + number, Check.rules(house, word + number), 1);
            Check.due("says(" + what + ")", house.says(what), number);
        }
        Check.wrongRules(house, word + " " + (most + 1), word.length() + 1);
        Check.wrongRules(house, word + " -1", word.length() + 1);
        Check.due("says(" + what + ") behind wrong texts", house.says(what), most);
    }

    private static void places() {
        PostHouse house = Made.house(0, 0, 0);
        duePlaces(house, -1, -1, -1);
        Check.due("one", Check.rules(house, "place 1000 by 1001"), 1);
        duePlaces(house, 1, -1, -1);
        Check.due("of two the same", Check.rules(house, "place 1002 by 1001"), 1);
        duePlaces(house, 1, -1, 1);
        Check.due("one by the other and back", Check.rules(house, "place 1001 by 1000"), 1);
        duePlaces(house, 1, 0, 1);
        house.thing(1003, 1, 0, 1);
        Check.due("of a thing told later", house.instead(3), -1);
    }

    private static void duePlaces(PostHouse house, int... due) {
        for (int i = 0; i < due.length; i++) {
            Check.due("instead(" + i + ")", house.instead(i), due[i]);
        }
    }

    private static void ruleByRule() {
        PostHouse house = Made.house(0, 0);
        Check.due("one", Check.rules(house, "back 1"), 1);
        Check.due("five", Check.rules(house, "place 1000 by 1001;behind 2;post 3;free 4;back 5"), 5);
        Check.dueRules(house, 2, 3, 4, 5);
        Check.due("instead(0)", house.instead(0), 1);
        Check.wrongRules(house, "", 0);
        Check.wrongRules(house, ";", 0);
        Check.wrongRules(house, "back 1;", 7);
        Check.wrongRules(house, ";back 1", 0);
        Check.wrongRules(house, "back 1;;post 1", 7);
        Check.wrongRules(house, "back 1 post 1", 7);
        Check.wrongRules(house, "back 1,post 1", 6);
        Check.due("as many as go on a tape",
                Check.rules(house, "back0" + ";back1".repeat(65)), 66);
    }

    private static void formsOfRules() {
        String[] words = {"behind", "post", "free", "back"};
        for (int what = 0; what < words.length; what++) {
            PostHouse house = Made.house(0, 0);
            String word = words[what];
            Check.due(word, Check.rules(house, word + " 37"), 1);
            Check.due("says(" + what + ")", house.says(what), 37);
            Check.wrongRules(house, word, word.length());
            Check.wrongRules(house, word + " " + word, word.length() + 1);
            Check.wrongRules(house, "37 " + word, 0);
            Check.wrongRules(house, word + " 1 by 2", word.length() + 3);
        }
        PostHouse house = Made.house(0, 0);
        Check.wrongRules(house, "place 1000 1001", 11);
        Check.wrongRules(house, "place by 1001", 6);
        Check.wrongRules(house, "1000 by 1001", 0);
        Check.wrongRules(house, "place 1000 by 1001 by 1000", 19);
        Check.wrongRules(house, "place 1000 by 1001 1000", 19);
    }

    private static void fourDigits() {
        PostHouse house = Made.house(0, 0);
        house.thing(7, 1, 0, 1);
        Check.wrongRules(house, "place 100 by 1001", 6);
        Check.wrongRules(house, "place 10000 by 1001", 6);
        Check.wrongRules(house, "place 01000 by 1001", 6);
        Check.wrongRules(house, "place 1000 by 101", 14);
        Check.wrongRules(house, "place 1000 by 10010", 14);
        Check.wrongRules(house, "place 7 by 1001", 6);
        Check.wrongRules(house, "place 1000 by 007", 14);
        Check.due("place 0007 by 1001", Check.rules(house, "place 0007 by 1001"), 1);
        Check.due("instead(2)", house.instead(2), 1);
    }

    private static void codesOfThings() {
        PostHouse house = Made.house(0, 0);
        Check.wrongRules(house, "place 1002 by 1001", 6);
        Check.wrongRules(house, "place 1000 by 1002", 14);
        Check.wrongRules(new PostHouse(), "place 0000 by 0001", 6);
        house.thing(1002, 1, 0, 1);
        Check.due("behind it was told", Check.rules(house, "place 1000 by 1002"), 1);
        Check.due("a thing need not be sold", house.instead(0), 2);
    }

    private static void twoUnlike() {
        PostHouse house = Made.house(0, 0);
        Check.wrongRules(house, "place 1000 by 1000", 14);
        Check.wrongRules(house, "place 1001 by   1001", 16);
        Check.due("unlike in one digit", Check.rules(house, "place 1000 by 1001"), 1);
    }

    private static void sixDigits() {
        PostHouse house = Made.house(5);
        Check.due("of one", Check.rules(house, "free 7"), 1);
        Check.due("FREE", house.says(FREE), 7);
        Check.due("of six", Check.rules(house, "free 000008;behind 000099"), 2);
        Check.due("FREE then", house.says(FREE), 8);
        Check.wrongRules(house, "free 0000009", 5);
        Check.wrongRules(house, "behind 0000001", 7);
        Check.wrongRules(house, "free 4294967297", 5);
        Check.wrongRules(house, "free", 4);
        Check.wrongRules(house, "free ;back 1", 5);
        Check.due("of six in a letter", Check.letter(house, "1000 x 000001 sum 000005 money 000005"), 0);
        Check.wrongLetter(house, "1000 x 0000001 sum 5", 7);
        Check.wrongLetter(house, "1000 x 1 sum 0000005", 13);
        Check.wrongLetter(house, "1000 x 1 sum 5 money 0000005", 21);
        Check.wrongLetter(house, "1000 x 1 sum 18446744073709551621", 13);
    }

    private static void restStays() {
        PostHouse house = Made.house(0, 0);
        Check.rules(house, "behind 1;post 2;free 3;back 4;place 1000 by 1001");
        String[] texts = {"behind 5", "post 6", "free 7", "back 8"};
        int[] due = {1, 2, 3, 4};
        for (int i = 0; i < texts.length; i++) {
            Check.rules(house, texts[i]);
            due[i] = 5 + i;
            Check.dueRules(house, due);
            duePlaces(house, 1, -1);
        }
        Check.rules(house, "place 1001 by 1000");
        duePlaces(house, 1, 0);
        Check.due("BACK stays", house.says(BACK), 8);
    }

    private static void laterCounts() {
        PostHouse house = Made.house(0, 0, 0);
        Check.due("alike ones are counted, too",
                Check.rules(house, "post 9;place 1000 by 1001;post 3;place 1000 by 1002;post 5"), 5);
        Check.due("POST", house.says(POST), 5);
        Check.due("instead(0)", house.instead(0), 2);
        Check.rules(house, "back 1; back 0");
        Check.due("BACK", house.says(BACK), 0);
    }

    private static void lineByLine() {
        PostHouse house = Made.house(5, 6);
        Check.due("one line", Check.letter(house, "1000 x 1 sum 5"), 0);
        Check.due("two lines and money", Check.letter(house, "1000 x 1 , 1001 x 1 sum 11 money 12"), 1);
        Check.wrongLetter(house, "sum 5", 0);
        Check.wrongLetter(house, "", 0);
        Check.wrongLetter(house, "1000 x 1", 8);
        Check.wrongLetter(house, "1000 x 1 money 5", 9);
        Check.wrongLetter(house, "1000 x 1 1001 x 1 sum 11", 9);
        Check.wrongLetter(house, "1000 x 1, sum 5", 10);
        Check.wrongLetter(house, ", 1000 x 1 sum 5", 0);
        Check.wrongLetter(house, "1000 x 1 money 5 sum 5", 9);
        Check.wrongLetter(house, "1000 x 1 sum 5 sum 5", 15);
        Check.wrongLetter(house, "1000 x 1 sum 5 money 5 money 5", 23);
        Check.wrongLetter(house, "1000 x 1 sum 5, 1001 x 1", 14);
    }

    private static void eightLines() {
        PostHouse house = Made.house(5);
        Check.due("eight", Check.letter(house, "1000x1" + ",1000x1".repeat(7) + "sum40"), 0);
        Check.due("WANTS", house.order(0, 1), 8);
        Check.wrongLetter(house, "1000x1" + ",1000x1".repeat(8) + "sum45", 55);
        Check.due("eight in doubt", Check.letter(house, "9999x1" + ",9999x1".repeat(7) + "sum40"), -2);
        Check.due("LINES", house.doubt(0, 2), 8);
    }

    private static void anyFourDigits() {
        PostHouse house = Made.house(5);
        Check.due("of no thing", Check.letter(house, "0000 x 1 sum 4"), -2);
        Check.due("of no thing either", Check.letter(house, "9999 x 1 sum 4"), -3);
        Check.due("twice the same", Check.letter(house, "1000 x 1,1000 x 1 sum 10"), 0);
        Check.wrongLetter(house, "100 x 1 sum 5", 0);
        Check.wrongLetter(house, "01000 x 1 sum 5", 0);
        Check.wrongLetter(house, "1000 x 1,999 x 1 sum 5", 9);
        Check.wrongLetter(house, "1000 x 1,99999 x 1 sum 5", 9);
    }

    private static void howMany() {
        PostHouse house = Made.house(5);
        Check.due("1", Check.letter(house, "1000 x 1 sum 5"), 0);
        Check.due("99", Check.letter(house, "1000 x 99 sum 495"), 1);
        Check.due("MANY", house.want(1, 0, 1), 99);
        Check.wrongLetter(house, "1000 x 0 sum 0", 7);
        Check.wrongLetter(house, "1000 x 100 sum 500", 7);
        Check.wrongLetter(house, "1000 x 000000 sum 0", 7);
        Check.wrongLetter(house, "1000 x 1,1000 x 0 sum 5", 16);
        Check.wrongLetter(house, "1000 x 1,1000 x 100 sum 5", 16);
    }

    private static void sumAndMoney() {
        PostHouse house = Made.house(5);
        Check.due("least of both", Check.letter(house, "1000 x 1 sum 0 money 0"), -2);
        Check.due("sum 0", house.doubt(0, 4), 0);
        Check.due("money 0", house.doubt(0, 5), 0);
        Check.due("greatest of both", Check.letter(house, "1000 x 1 sum 999999 money 999999"), -3);
        Check.due("sum 999999", house.doubt(1, 4), 999999);
        Check.due("money 999999", house.doubt(1, 5), 999999);
        Check.wrongLetter(house, "1000 x 1 sum 1000000", 13);
        Check.wrongLetter(house, "1000 x 1 sum 5 money 1000000", 21);
        Check.wrongLetter(house, "1000 x 1 sum -5", 13);
        Check.wrongLetter(house, "1000 x 1 sum 5 money -5", 21);
    }

    private static void withoutMoney() {
        PostHouse house = Made.house(5);
        Check.letter(house, "1000 x 1 sum 5");
        Check.due("money of an order", house.order(0, 2), 5);
        Check.letter(house, "1000 x 1 sum 7");
        Check.due("money of a doubt", house.doubt(0, 5), 7);
        Check.letter(house, "1000 x 1 sum 5 money 0");
        Check.due("money of 0 is told", house.doubt(1, 5), 0);
    }

    private static void longWords() {
        PostHouse house = Made.house(5, 6);
        Check.wrongRules(house, "posts 1", 0);
        Check.wrongRules(house, "placeback 1", 0);
        Check.wrongRules(house, "place 1000 byby 1001", 11);
        Check.wrongRules(house, "po st 1", 0);
        Check.wrongRules(house, "post 1 ; pos t 2", 9);
        Check.wrongLetter(house, "1000 xx 1 sum 5", 5);
        Check.wrongLetter(house, "1000 xsum 1 sum 5", 5);
        Check.wrongLetter(house, "1000 x 1 summoney 5", 9);
        Check.wrongLetter(house, "1000 x 1 sum 5 moneys 5", 15);
        Check.due("digits end a word", Check.rules(house, "place1000by1001;back7"), 2);
        Check.due("and a word digits", Check.letter(house, "1000x1,1001x1sum11money12"), 0);
    }

    private static void longDigits() {
        PostHouse house = Made.house(5);
        Check.wrongLetter(house, "10001 x 1 sum 5", 0);
        Check.wrongLetter(house, "10 00 x 1 sum 5", 0);
        Check.wrongLetter(house, "1000 x 1 0 sum 50", 9);
        Check.wrongLetter(house, "1000 x 1 sum 5 0", 15);
        Check.wrongRules(house, "post 1 2", 7);
        Check.wrongRules(house, "back 1" + "0".repeat(300), 5);
    }

    private static void blanks() {
        PostHouse house = Made.house(5, 6);
        Check.due("rules without", Check.rules(house, "place1000by1001;post0;back9"), 3);
        Check.due("rules with", Check.rules(house, "   place   1000  by   1001   ;  post   0  ;  back  8   "), 3);
        Check.due("a letter without", Check.letter(house, "1000x1,1001x2sum17money18"), 0);
        Check.due("a letter with",
                Check.letter(house, "   1000   x   1  ,   1001  x  2   sum   17   money   18   "), 1);
        for (char sign : new char[] {'\t', '\n', '\r', '\0', '\u00a0', '_'}) {
            Check.wrongRules(house, "post" + sign + "1", 4);
            Check.wrongRules(house, sign + "post 1", 0);
            Check.wrongRules(house, "post 1" + sign, 6);
        }
        Check.wrongRules(house, "  ", 2);
        Check.wrongLetter(house, "   ", 3);
    }

    private static void firstOfSeveral() {
        PostHouse house = Made.house(5, 6);
        Check.wrongRules(house, "post 1;behind 100;sum;back 100", 14);
        Check.wrongRules(house, "post 1;place 1000 by 1000;place 9999 by 9999", 21);
        Check.wrongRules(house, "post 10000 20000;", 5);
        Check.wrongRules(house, "?post", 0);
        Check.wrongLetter(house, "1000 x 0,1001 x 0 sum 1000000", 7);
        Check.wrongLetter(house, "1000 y 0", 5);
        Check.wrongLetter(house, "  100 y 0", 2);
        Check.wrongLetter(house, "1000 x 1 sum 1000000 money 1000000", 13);
        Check.wrongLetter(house, "1000 x 1 sum 5 ; money ;", 15);
    }

    private static void anotherNumberOfDigits() {
        PostHouse house = Made.house(5, 6);
        Check.wrongRules(house, "place 1000 by 10011", 14);
        Check.wrongRules(house, "place 001 by 1001", 6);
        Check.wrongRules(house, "post 0000000", 5);
        Check.wrongLetter(house, "1000 x 1,10 x 1 sum 5", 9);
        Check.wrongLetter(house, "1000 x 0000011 sum 5", 7);
        Check.wrongLetter(house, "1000 x 1 sum 5 money 0000000", 21);
    }

    private static void outOfBounds() {
        PostHouse house = Made.house(5);
        Check.wrongRules(house, "  behind  100", 10);
        Check.wrongRules(house, "  post  10000", 8);
        Check.wrongRules(house, "  free  1000000", 8);
        Check.wrongRules(house, "  back  100", 8);
        Check.wrongLetter(house, "  1000  x  100 sum 5", 11);
        Check.wrongLetter(house, "  1000  x  0 sum 5", 11);
    }

    private static void codesNotToBeTold() {
        PostHouse house = Made.house(5, 6);
        Check.wrongRules(house, "place  1002 by 1000", 7);
        Check.wrongRules(house, "place 1000 by  1002", 15);
        Check.wrongRules(house, "place 1000 by  1000", 15);
        Check.wrongRules(house, "place 1002 x", 6);
        Check.due("in a letter any may be", Check.letter(house, "1002 x 1,1003 x 1 sum 5"), -2);
    }

    private static void wordsThatAreNone() {
        PostHouse house = Made.house(5, 6);
        String[] words = {"p", "plac", "places", "behin", "behinds", "bac", "fre", "frees", "pos", "by", "x", "sum",
            "money", "bost", "posz", "qost", "Post", "POST", "fost", "bree", "baby"};
        for (String word : words) {
            Check.wrongRules(house, word + " 1", 0);
        }
        Check.wrongRules(house, "back 1; nothing 1", 8);
        Check.wrongRules(house, "place 1000 bz 1001", 11);
        Check.wrongRules(house, "place 1000 cy 1001", 11);
        Check.wrongRules(house, "place 1000 x 1001", 11);
        Check.wrongRules(house, "place 1000 by by", 14);
        Check.wrongLetter(house, "1000 y 1 sum 5", 5);
        Check.wrongLetter(house, "1000 by 1 sum 5", 5);
        Check.wrongLetter(house, "1000 x 1 sun 5", 9);
        Check.wrongLetter(house, "1000 x 1 sum 5 mone 5", 15);
        Check.wrongLetter(house, "1000 x 1 sum 5 monez 5", 15);
        Check.wrongLetter(house, "post 1", 0);
    }

    private static void ninthLine() {
        PostHouse house = Made.house(5);
        String eight = "1000x1" + ",1000x1".repeat(7);
        Check.wrongLetter(house, eight + ",", 55);
        Check.wrongLetter(house, eight + "   , 1000x1 sum 45", 58);
        Check.wrongLetter(house, eight + ",sum 45", 55);
        Check.wrongLetter(house, eight, 55);
        Check.wrongLetter(house, eight + ";", 55);
        Check.due("without it", Check.letter(house, eight + "   sum 40"), 0);
    }

    /** Each of the 256 bytes behind "back 1" and behind "1000 x 1 sum 5", where few may stand. */
    private static void anyOtherByte() {
        for (int sign = 0; sign < 256; sign++) {
            PostHouse house = Made.house(5, 6);
            String rules = "back 1" + (char) sign;
            boolean digit = sign >= '0' && sign <= '9';
            if (digit || sign == ' ') {
                Check.due(rules, Check.rules(house, rules), 1);
                Check.due("BACK", house.says(BACK), digit ? 10 + sign - '0' : 1);
            } else {
                Check.wrongRules(house, rules, sign == ';' ? 7 : 6);
            }
            String letter = "1000 x 1 sum 5" + (char) sign;
            if (digit || sign == ' ') {
                Check.due(letter, Check.letter(house, letter), digit ? -2 : 0);
            } else {
                Check.wrongLetter(house, letter, 14);
            }
            if (sign != ' ' && !digit) {
                Check.wrongLetter(house, (char) sign + "1000 x 1 sum 5", 0);
                Check.wrongRules(house, (char) sign + "back 1", 0);
            }
        }
    }

    /** Each sign that stands nowhere, ahead of each word, digits and sign of a right text. */
    private static void signsThatAreNone() {
        String[] rules = {"place", "1000", "by", "1001", ";", "post", "7"};
        String[] letter = {"1000", "x", "1", ",", "1001", "x", "1", "sum", "11", "money", "12"};
        for (int sign = 0; sign < 256; sign++) {
            boolean letterOrDigit = sign >= 'a' && sign <= 'z' || sign >= '0' && sign <= '9';
            if (letterOrDigit || sign == ' ' || sign == ',' || sign == ';') {
                continue;
            }
            PostHouse house = Made.house(5, 6);
            for (int i = 0; i < rules.length; i++) {
                int[] at = new int[1];
                Check.wrongRules(house, withSign(rules, i, (char) sign, at), at[0]);
            }
            for (int i = 0; i < letter.length; i++) {
                int[] at = new int[1];
                Check.wrongLetter(house, withSign(letter, i, (char) sign, at), at[0]);
            }
        }
    }

    /** The parts with blanks between, a sign ahead of one of them; the sign's place is told in at[0]. */
    private static String withSign(String[] parts, int place, char sign, int[] at) {
        StringBuilder text = new StringBuilder();
        for (int i = 0; i < parts.length; i++) {
            if (i == place) {
                at[0] = text.length();
                text.append(sign);
            }
            text.append(parts[i]).append(' ');
        }
        return text.toString();
    }

    private static void moreMustCome() {
        PostHouse house = Made.house(5, 6);
        String rules = "place 1000 by 1001 ; post";
        for (int length : new int[] {0, 5, 6, 10, 11, 13, 14, 20, 21, 25}) {
            Check.wrongRules(house, rules.substring(0, length), length);
        }
        Check.wrongRules(house, rules + "   ", 28);
        String letter = "1000 x 1 , 1001 x 1 sum 11 money";
        for (int length : new int[] {0, 4, 5, 6, 7, 8, 9, 10, 11, 15, 17, 20, 23, 24, 32}) {
            Check.wrongLetter(house, letter.substring(0, length), length);
        }
        Check.wrongLetter(house, letter + "  ", 34);
        Check.due("no more must come", Check.letter(house, letter.substring(0, 27)), 0);
    }

    private static void rulesAreCounted() {
        PostHouse house = Made.house(0, 0);
        Check.due("one", Check.rules(house, "place 1000 by 1001"), 1);
        Check.due("the tape is empty", house.end(1), false);
        Check.due("three that tell nothing new", Check.rules(house, "post 0;post 0;post 0"), 3);
        Check.due("the tape is empty again", house.feed(0, 0, 0, 0, 0), 20);
        Check.dueThrow("twenty zeros", ARGUMENT, house::rules);
        Check.due("wrong ones use it up, too", house.end(1), false);
        Check.dueThrow("an empty tape", ARGUMENT, house::rules);
        Check.due("fault() of an empty tape", house.fault(), 0);
    }

    private static void wrongRulesLeaveAll() {
        PostHouse house = Made.house(0, 0, 0);
        Check.rules(house, "behind 1;post 2;free 3;back 4;place 1000 by 1001");
        Check.wrongRules(house, "behind 5;post 6;free 7;back 8;place 1000 by 1002;place 1001 by 1002;", 68);
        Check.dueRules(house, 1, 2, 3, 4);
        duePlaces(house, 1, -1, -1);
        Check.rules(house, "back 9");
        Check.due("nothing of it comes with the next text", house.says(POST), 2);
        duePlaces(house, 1, -1, -1);
    }

    private static void says() {
        PostHouse house = new PostHouse();
        Check.rules(house, "back 44;free 33;post 22;behind 11");
        Check.dueRules(house, 11, 22, 33, 44);
    }

    private static void saysNothingElse() {
        PostHouse house = new PostHouse();
        for (int what : new int[] {-1, 4, Made.LEAST, Made.MOST}) {
            Check.dueThrow("says(" + what + ")", NoSuchElementException.class, () -> house.says(what));
        }
    }

    private static void instead() {
        PostHouse house = Made.house(0, 0, 0);
        duePlaces(house, -1, -1, -1);
        Check.rules(house, "place 1002 by 1000");
        duePlaces(house, -1, -1, 0);
        Check.rules(house, "place 1002 by 1001");
        duePlaces(house, -1, -1, 1);
        for (int thing : new int[] {-1, 3, 30, Made.LEAST, Made.MOST}) {
            Check.dueThrow("instead(" + thing + ")", IndexOutOfBoundsException.class, () -> house.instead(thing));
        }
    }

    private static void latestFault() {
        PostHouse house = Made.house(5);
        Check.wrongRules(house, "post", 4);
        Check.due("asked twice", house.fault(), 4);
        house.days(1);
        Check.tape(house, "post 1");
        Check.due("other calls leave it", house.fault(), 4);
        Check.wrongLetter(house, "1000", 4);
        Check.wrongLetter(house, "1000 x", 6);
        Check.wrongRules(house, "?", 0);
    }

    private static void noFault() {
        PostHouse house = new PostHouse();
        Check.due("ahead of any", house.fault(), -1);
        Check.wrongRules(house, "post", 4);
        Check.rules(house, "post 1");
        Check.due("behind right rules", house.fault(), -1);
        Check.wrongLetter(house, "1", 0);
        Check.letter(house, "1000 x 1 sum 5");
        Check.due("behind a letter that came in doubt", house.fault(), -1);
        PostHouse full = Made.house(5);
        for (int i = 0; i < 20; i++) {
            Check.letter(full, "9999 x 1 sum 5");
        }
        Check.wrongLetter(full, "1", 0);
        Check.tape(full, "9999 x 1 sum 5");
        Check.dueThrow("a 21st doubt", UnsupportedOperationException.class, full::letter);
        Check.due("its text has no wrong byte", full.fault(), -1);
    }
}
