/** Promises 2 to 7: THE TAPE, a BOOK, who JOINS, FAULTS, a NAME. */
final class SentencesOfTheTape {
    private static final int BLANKS = 0x20202020;

    private SentencesOfTheTape() {
    }

    private static int feedBlanks(HailClub x) {
        return x.feed(BLANKS, BLANKS, BLANKS, BLANKS, BLANKS);
    }

    @Says(in = "Promise 2", words = "Twenty bytes come behind THE TAPE")
    static void twentyBytes() {
        HailClub x = new HailClub();
        // "rate 1;             " and "rate 2;             "
        x.feed(0x72617465, 0x20313b20, BLANKS, BLANKS, BLANKS);
        x.feed(0x72617465, 0x20323b20, BLANKS, BLANKS, BLANKS);
        Check.due("bytes", x.look(5), 40);
        x.book();
        Check.due("the latter is the last", x.club(0), 2);
        // "rat" and "e 3;": behind what end() left.
        x.feed(0x72617400, 0, 0, 0, 0);
        x.end(3);
        x.feed(0x6520333b, BLANKS, BLANKS, BLANKS, BLANKS);
        Check.due("bytes then", x.look(5), 23);
        Check.due("book", x.book(), 0);
        Check.due("RATE", x.club(0), 3);
    }

    @Says(in = "Promise 2", words = "four of each number, the highest first")
    static void fourOfEach() {
        HailClub x = new HailClub();
        // "rate", " 123", ";cap", " 45;", "goal", and " 67;"
        x.feed(0x72617465, 0x20313233, 0x3b636170, 0x2034353b, 0x676f616c);
        x.feed(0x2036373b, BLANKS, BLANKS, BLANKS, BLANKS);
        Check.due("book", x.book(), 0);
        Check.due("RATE", x.club(0), 123);
        Check.due("CAP", x.club(5), 45);
        Check.due("GOAL", x.club(6), 67);
        // Bytes above 127 in each place of a number are no blanks and no letters.
        int[] high = {0x80202020, 0x20ff2020, 0x2020a020, 0x20202081};
        for (int i = 0; i < high.length; i++) {
            x.feed(BLANKS, high[i], BLANKS, BLANKS, BLANKS);
            Check.due("book", x.book(), -1);
            Check.due("its place", x.fault(1), 4 + i);
        }
    }

    @Says(in = "Promise 2", words = "how many it has")
    static void howManyItHas() {
        HailClub x = new HailClub();
        Check.due("feed", x.feed(-1, Integer.MIN_VALUE, Integer.MAX_VALUE, 0, 1), 20);
        Check.due("feed again", feedBlanks(x), 40);
        x.end(7);
        Check.due("feed behind seven", feedBlanks(x), 27);
        x.book();
        Check.due("feed behind a BOOK", feedBlanks(x), 20);
    }

    @Says(in = "Promise 2", words = "NONE, and none come, if there would be more than 700")
    static void noMoreThanSevenHundred() {
        HailClub x = new HailClub();
        for (int i = 1; i <= 35; i++) {
            Check.due("feed " + i, feedBlanks(x), 20 * i);
        }
        Check.due("feed 36", x.feed(1, 1, 1, 1, 1), -1);
        Check.due("bytes", x.look(5), 700);
        x.end(681);
        Check.due("feed behind 681", x.feed(1, 1, 1, 1, 1), -1);
        Check.due("bytes then", x.look(5), 681);
        x.end(680);
        Check.due("feed behind 680", feedBlanks(x), 700);
        Check.due("book of blanks alone", x.book(), 0);
    }

    @Says(in = "Promise 3", words = "THE TAPE has its first n bytes alone: true")
    static void endCuts() {
        HailClub x = new HailClub();
        Check.due("end(0) of an empty one", x.end(0), true);
        Check.put(x, "rate 5; strange; more");
        Check.due("bytes", x.look(5), 21);
        Check.due("end of as many as there are", x.end(21), true);
        Check.due("bytes then", x.look(5), 21);
        Check.due("end(7)", x.end(7), true);
        Check.due("bytes of end(7)", x.look(5), 7);
        Check.due("book", x.book(), 0);
        Check.due("RATE", x.club(0), 5);
        Check.put(x, "strange");
        Check.due("end(0)", x.end(0), true);
        Check.due("bytes of end(0)", x.look(5), 0);
        Check.due("book of nothing", x.book(), 0);
        for (int i = 0; i < 35; i++) {
            feedBlanks(x);
        }
        Check.due("end(700)", x.end(700), true);
        Check.due("end(699)", x.end(699), true);
    }

    @Says(in = "Promise 3", words = "false if it has not so many")
    static void endOfTooMany() {
        HailClub x = new HailClub();
        Check.due("end(1) of an empty one", x.end(1), false);
        feedBlanks(x);
        Check.due("end(21)", x.end(21), false);
        Check.due("end(most)", x.end(Integer.MAX_VALUE), false);
        Check.due("bytes", x.look(5), 20);
        x.end(3);
        Check.due("end(4) behind end(3)", x.end(4), false);
        Check.due("bytes then", x.look(5), 3);
    }

    @Says(in = "Promise 3", words = "or n is below 0")
    static void endBelowZero() {
        HailClub x = new HailClub();
        Check.due("end(-1) of an empty one", x.end(-1), false);
        feedBlanks(x);
        Check.due("end(-1)", x.end(-1), false);
        Check.due("end(-20)", x.end(-20), false);
        Check.due("end(least)", x.end(Integer.MIN_VALUE), false);
        Check.due("bytes", x.look(5), 20);
    }

    @Says(in = "Promise 4", words = "THE TAPE (empty then, with a FAULT, too)")
    static void bookEmptiesTheTape() {
        HailClub x = Check.put(new HailClub(), "rate 5;");
        x.book();
        Check.due("bytes", x.look(5), 0);
        Check.put(x, "rate 5");
        x.book();
        Check.due("bytes with a FAULT", x.look(5), 0);
        // Nothing of it comes back behind what is fed then.
        Check.put(x, "rate 7;");
        Check.due("book", x.book(), 0);
        Check.due("RATE", x.club(0), 7);
    }

    @Says(in = "Promise 4", words = "is a BOOK: how many FIELDS")
    static void bookTellsFields() {
        HailClub x = new HailClub();
        for (int fields = 0; fields <= 24; fields++) {
            Check.put(x, "member a;member b;" + "field a 0 0 0 1 1;".repeat(fields));
            Check.due("book", x.book(), fields);
        }
        Check.put(x, "");
        Check.due("empty book", x.book(), 0);
    }

    /** A club with two ENDS, a STORM, a MEMBER that JOINED, and one that did not. */
    private static HailClub used() {
        HailClub x = Check.book("member a;member b;field a 0 0 0 1 100;field b 0 0 0 1 200;reserve 50;");
        x.storm(0, 0, 0, 0, 10);
        x.close();
        x.close();
        Check.join(x, "c 0 0 0 1 50");
        x.leave(1);
        x.storm(0, 0, 0, 0, 20);
        Check.join(x, "d!");
        return x;
    }

    @Says(in = "Promise 4", words = "YEAR 0")
    static void bookBeginsAtYearZero() {
        HailClub x = used();
        Check.due("YEAR before", x.look(3), 2);
        Check.put(x, "member n;");
        x.book();
        Check.due("YEAR", x.look(3), 0);
        Check.due("YEARS", x.member(0, 2), 0);
        x.close();
        Check.due("YEAR then", x.look(3), 1);
        Check.due("YEARS then", x.member(0, 2), 1);
    }

    @Says(in = "Promise 4", words = "no STORMS")
    static void bookHasNoStorms() {
        HailClub x = used();
        Check.put(x, "member n;field n 0 0 0 1 100;");
        x.book();
        Check.due("STORMS", x.look(2), 0);
        Check.due("LOST", x.field(0, 7), 0);
        Check.due("alone(0, 0)", x.alone(0, 0), -1);
    }

    @Says(in = "Promise 4", words = "no END yet")
    static void bookHasNoEnd() {
        HailClub x = used();
        Check.due("then before", x.then(0, 0), 0);
        Check.put(x, "");
        x.book();
        Check.due("then(0, 0) of an empty BOOK", x.then(0, 0), Long.MIN_VALUE);
        Check.due("then(1, 0) of an empty BOOK", x.then(1, 0), Long.MIN_VALUE);
        x = used();
        Check.put(x, "member n;member m;");
        x.book();
        for (int what = 0; what < 6; what++) {
            Check.due("then(0, " + what + ")", x.then(0, what), Long.MIN_VALUE);
            Check.due("then(1, " + what + ")", x.then(1, what), Long.MIN_VALUE);
        }
        x.close();
        Check.due("then of the END behind", x.then(1, 0), 0);
        Check.put(x, "");
        x.book();
        Check.due("then with nobody", x.then(0, 0), Long.MIN_VALUE);
    }

    @Says(in = "Promise 4", words = "nothing can be undone")
    static void bookCannotBeUndone() {
        HailClub x = used();
        Check.due("kept before", x.look(4), 6);
        Check.put(x, "member n;");
        x.book();
        Check.due("kept", x.look(4), 0);
        Check.due("undo", x.undo(), false);
        Check.due("MEMBERS", x.look(0), 1);
        x.leave(0);
        Check.due("undo of what was done since", x.undo(), true);
        Check.due("undo of more", x.undo(), false);
    }

    @Says(in = "Promise 4", words = "NONE with a FAULT (all else stays)")
    static void bookWithAFault() {
        HailClub x = used();
        String before = Check.all(x);
        // All that a BOOK can say, and a FAULT behind it.
        Check.put(x, "member n;field n 7 7 3 9 9;hazard 0 0 7 7 9;crop 0 7;rate 11;reserve 12;retain 13;cover 14 15;"
            + "cap 16;goal 17;pay 1;!");
        Check.due("book", x.book(), -1);
        Check.due("all else is as it was", Check.all(x).equals(before), true);
        Check.due("undo", x.undo(), true);
        Check.due("STORMS before", x.look(2), 0);
    }

    @Says(in = "Promise 5", words = "THE TAPE (empty then, with a FAULT, too)")
    static void joinEmptiesTheTape() {
        HailClub x = Check.put(new HailClub(), "a");
        x.join();
        Check.due("bytes", x.look(5), 0);
        Check.put(x, "b!");
        x.join();
        Check.due("bytes with a FAULT", x.look(5), 0);
        Check.put(x, "c");
        Check.due("join", x.join(), 0);
        Check.due("MEMBERS", x.look(0), 2);
    }

    @Says(in = "Promise 5", words = "is who JOINS: a NAME, then FIELDS, each five N: x, y, CROP, AREA, VALUE")
    static void whoJoins() {
        HailClub x = Check.book("member a;field a 7 7 3 9 9;");
        Check.due("join", Check.join(x, "b 1 2 3 4 5\n6 7 0 8 999"), 0);
        Check.due("MEMBERS", x.look(0), 2);
        Check.due("FIELDS", x.look(1), 3);
        long[][] want = {{0, 7, 7, 3, 9, 9}, {1, 1, 2, 3, 4, 5}, {1, 6, 7, 0, 8, 999}};
        for (int field = 0; field < 3; field++) {
            for (int what = 0; what < 6; what++) {
                Check.due("field(" + field + ", " + what + ")", x.field(field, what), want[field][what]);
            }
        }
        Check.put(x, "b");
        Check.due("named", x.named(), 1);
        long[] member = {1, 0, 0, 2, 8012, 8012};
        for (int what = 0; what < member.length; what++) {
            Check.due("member(1, " + what + ")", x.member(1, what), member[what]);
        }
        // Behind as many STORMS as there can be.
        for (int i = 0; i < 16; i++) {
            x.storm(0, 0, 0, 0, 1);
        }
        Check.due("join behind the STORMS", Check.join(x, "e 1 1 0 1 1"), 0);
        Check.due("MEMBERS then", x.look(0), 3);
        Check.due("its FIELD", x.field(3, 0), 2);
        Check.joinFault(x, "1 2 3 4 5", 1, 0);
        Check.joinFault(x, "c 1 2 3 4", 1, 9);
        Check.joinFault(x, "c 1 2 3 4 5 6", 1, 13);
        Check.joinFault(x, "c d", 1, 2);
        Check.joinFault(x, "member c", 1, 0);
    }

    @Says(in = "Promise 5", words = "(no signs between")
    static void noSignsBetween() {
        HailClub x = new HailClub();
        Check.joinFault(x, "a;", 1, 1);
        Check.joinFault(x, "a 0 0 0 1 1;", 1, 11);
        Check.joinFault(x, "a 0 0 0 1 1,0 0 0 1 1", 1, 11);
        Check.joinFault(x, "a,0 0 0 1 1", 1, 1);
        Check.joinFault(x, "a 0,0 0 1 1", 1, 3);
        Check.joinFault(x, "(a)", 1, 0);
        Check.due("join", Check.join(x, "\n a0 0 0 1 1 0 0 0 1 1 \n"), 0);
    }

    @Says(in = "Promise 5", words = "none may be)")
    static void joinWithoutFields() {
        HailClub x = Check.book("member a;field a 0 0 0 1 1;reserve 100;");
        Check.due("join", Check.join(x, "b"), 0);
        Check.due("join with blanks", Check.join(x, " c \n"), 0);
        Check.due("MEMBERS", x.look(0), 3);
        Check.due("FIELDS", x.look(1), 1);
        Check.due("RESERVE", x.club(1), 100);
        Check.due("FIELDS of b", x.member(1, 3), 0);
        Check.joinFault(x, "", 1, 0);
    }

    @Says(in = "Promise 5", words = "what it pays")
    static void whatItPays() {
        HailClub x = Check.book("member a;field a 0 0 0 1 30;reserve 1000;");
        Check.due("join", Check.join(x, "b 0 0 0 1 10 0 0 0 1 5"), 500);
        Check.due("RESERVE", x.club(1), 1500);
        x = Check.book("member a;field a 0 0 0 1 1;reserve 99999999;");
        Check.due("join for the most", Check.join(x, "b 0 0 0 1 1"), 9999999);
        Check.due("RESERVE then", x.club(1), 109999998);
    }

    @Says(in = "Promise 5", words = "NONE with a FAULT")
    static void joinWithAFault() {
        HailClub x = Check.book("member a;");
        String[] wrong = {"", "a", "b!", "b 8 0 0 1 1", "b 0 0 0 1", "toolongx", "rate"};
        for (String text : wrong) {
            Check.due("join of \"" + text + "\"", Check.join(x, text), -1);
        }
    }

    @Says(in = "Promise 5", words = "(FAULTS as of a BOOK")
    static void faultsOfAJoin() {
        HailClub x = Check.book("member ann;");
        Check.joinFault(x, "", 1, 0);
        Check.joinFault(x, " \n ", 1, 3);
        Check.joinFault(x, "B", 1, 0);
        Check.joinFault(x, "join b", 1, 0);
        Check.joinFault(x, "b\t", 1, 1);
        Check.joinFault(x, " abcdefgh", 1, 1);
        Check.joinFault(x, "b 0 0 0 1 123456789", 1, 10);
        Check.joinFault(x, "b 0 8 0 1 1", 4, 4);
        Check.joinFault(x, "b 0 0 4 1 1", 4, 6);
        Check.joinFault(x, "b 0 0 0 0 1", 4, 8);
        Check.joinFault(x, "b 0 0 0 1 1000", 4, 10);
        Check.joinFault(x, "b 0 0 0 1 1 8 0 0 1 1", 4, 12);
        Check.joinFault(x, "ann 8", 2, 0);
    }

    @Says(in = "Promise 5", words = "2 at the NAME")
    static void joinOfANameTaken() {
        HailClub x = Check.book("member ann;member bob;");
        x.leave(1);
        x.close();
        Check.joinFault(x, "ann", 2, 0);
        Check.joinFault(x, "\n  ann 0 0 0 1 1", 2, 3);
        Check.joinFault(x, " bob", 2, 1);
        Check.due("join of a NAME that is free", Check.join(x, "bobo"), 0);
    }

    @Says(in = "Promise 5", words = "5 the 13th MEMBER in all at the NAME")
    static void theThirteenthJoins() {
        HailClub x = Check.book(SentencesOfTheMap.members(11));
        Check.due("join of the 12th", Check.join(x, "x"), 0);
        Check.joinFault(x, " y", 5, 1);
        Check.joinFault(x, "y 8 !", 5, 0);
        x.leave(0);
        x.close();
        Check.due("MEMBERS that are there", x.look(0), 11);
        Check.joinFault(x, "y", 5, 0);
        x.undo();
        x.undo();
        x.undo();
        Check.due("join with the 12th undone", Check.join(x, "y"), 0);
    }

    @Says(in = "Promise 5", words = "the 25th FIELD in all at its first N")
    static void theTwentyFifthFieldJoins() {
        HailClub x = Check.book("member a;member b;" + "field a 0 0 0 1 1;".repeat(21) + "field b 0 0 0 1 1;");
        Check.joinFault(x, "c 0 0 0 1 1 1 1 0 1 1 2 2 0 1 1", 5, 22);
        Check.joinFault(x, "c 0 0 0 1 1 1 1 0 1 1 2", 5, 22);
        Check.due("join with the 24th", Check.join(x, "c 0 0 0 1 1 1 1 0 1 1"), 0);
        Check.due("FIELDS", x.look(7), 24);
        Check.joinFault(x, "d 3", 5, 2);
        x.leave(0);
        x.close();
        Check.due("FIELDS that are there", x.look(1), 3);
        Check.joinFault(x, "d 3 3 0 1 1", 5, 2);
        Check.due("join without FIELDS", Check.join(x, "d"), 0);
    }

    @Says(in = "Promise 5", words = "the 25th FIELD in all at its first N")
    static void twentyFiveFieldsAtOnce() {
        String land = " 1 2 3 4 5";
        HailClub x = new HailClub();
        Check.joinFault(x, "a" + land.repeat(25), 5, 2 + 24 * land.length());
        Check.joinFault(x, "a" + land.repeat(24) + " 7", 5, 2 + 24 * land.length());
        Check.joinFault(x, "a" + land.repeat(24) + ";", 1, 1 + 24 * land.length());
        Check.due("nobody", x.look(6), 0);
        Check.due("join with 24", Check.join(x, "a" + land.repeat(24)), 0);
        Check.due("FIELDS", x.look(1), 24);
        for (int field = 0; field < 24; field++) {
            Check.due("VALUE of " + field, x.field(field, 5), 5);
        }
    }

    @Says(in = "Promise 5", words = "nobody JOINS")
    static void nobodyJoins() {
        HailClub x = used();
        String before = Check.all(x);
        String[] wrong = {"d 0 0 0 1 1 0 0 0 1", "d 0 0 0 1 1;", "b", "d!", "d 0 0 0 1 1000"};
        for (String text : wrong) {
            Check.due("join of \"" + text + "\"", Check.join(x, text), -1);
        }
        Check.due("all else is as it was", Check.all(x).equals(before), true);
        Check.put(x, "d");
        Check.due("named", x.named(), -1);
        Check.due("join of it", Check.join(x, "d 0 0 0 1 1") != -1, true);
        Check.due("its number", x.look(6), 4);
        Check.due("its FIELD", x.field(3, 0), 3);
    }

    @Says(in = "Promise 6", words = "Of the latest book(), join()")
    static void faultOfTheLatest() {
        HailClub x = new HailClub();
        Check.due("fault(0) ahead of all", x.fault(0), 0);
        Check.due("fault(1) ahead of all", x.fault(1), -1);
        Check.put(x, "rate 1000;");
        Check.due("fault(0) ahead of book()", x.fault(0), 0);
        x.book();
        Check.due("fault(0) of the BOOK", x.fault(0), 4);
        Check.due("fault(1) of the BOOK", x.fault(1), 5);
        Check.join(x, "a !");
        Check.due("fault(0) of the join", x.fault(0), 1);
        Check.due("fault(1) of the join", x.fault(1), 2);
        // Nothing else changes it.
        Check.put(x, "b");
        x.named();
        x.storm(0, 0, 9, 9, 1);
        x.set(0, 5);
        x.undo();
        x.close();
        Check.due("fault(0) still", x.fault(0), 1);
        Check.due("fault(1) still", x.fault(1), 2);
        Check.join(x, "a");
        Check.due("fault(0) of a fine join", x.fault(0), 0);
        Check.due("fault(1) of a fine join", x.fault(1), -1);
        Check.join(x, " a");
        Check.put(x, "");
        x.book();
        Check.due("fault(0) of a fine BOOK", x.fault(0), 0);
        Check.due("fault(1) of a fine BOOK", x.fault(1), -1);
    }

    @Says(in = "Promise 6", words = "what 0 its FAULT (0 without)")
    static void faultNumber() {
        String[] books = {"", "x", "member a;member a;", "field a 0 0 0 1 1;", "rate 1000;", "pay 1;pay 1;"};
        for (int fault = 0; fault < books.length; fault++) {
            HailClub x = Check.put(new HailClub(), books[fault]);
            x.book();
            Check.due("fault(0) of \"" + books[fault] + "\"", x.fault(0), fault);
        }
    }

    @Says(in = "Promise 6", words = "1 its place (NONE)")
    static void faultPlace() {
        HailClub x = new HailClub();
        for (int blanks = 0; blanks < 20; blanks++) {
            Check.put(x, " ".repeat(blanks) + "x");
            x.book();
            Check.due("fault(1) behind " + blanks + " blanks", x.fault(1), blanks);
        }
        Check.put(x, "rate 5;");
        x.book();
        Check.due("fault(1) without a FAULT", x.fault(1), -1);
    }

    @Says(in = "Promise 6", words = "NONE for another what")
    static void faultOfAnotherWhat() {
        HailClub x = Check.put(new HailClub(), "rate 1000;");
        x.book();
        int[] others = {-1, 2, 3, Integer.MIN_VALUE, Integer.MAX_VALUE};
        for (int what : others) {
            Check.due("fault(" + what + ")", x.fault(what), -1);
        }
    }

    private static int named(HailClub x, String text) {
        Check.put(x, text);
        return x.named();
    }

    @Says(in = "Promise 7", words = "The number of the MEMBER that is there whose NAME stands on THE TAPE")
    static void namedFinds() {
        HailClub x = Check.book("member ann;member abcdefg;member an;");
        Check.due("named ann", named(x, "ann"), 0);
        Check.due("named abcdefg", named(x, "abcdefg"), 1);
        Check.due("named an", named(x, "an"), 2);
        Check.join(x, "d");
        Check.due("named d", named(x, "d"), 3);
        x.leave(0);
        Check.due("named ann that LEAVES", named(x, "ann"), 0);
        x.close();
        Check.due("named ann that is GONE", named(x, "ann"), -1);
        Check.due("named an", named(x, "an"), 2);
        x.undo();
        Check.due("named ann that is back", named(x, "ann"), 0);
        x = Check.book(SentencesOfTheMap.members(11));
        Check.join(x, "ml");
        for (int member = 0; member < 12; member++) {
            String name = "m" + (char) ('a' + member);
            Check.due("named " + name, named(x, name), member);
        }
    }

    @Says(in = "Promise 7", words = "(empty then)")
    static void namedEmptiesTheTape() {
        HailClub x = Check.book("member ann;");
        String[] texts = {"ann", "bob", "", "!", "ann bob"};
        for (String text : texts) {
            named(x, text);
            Check.due("bytes behind \"" + text + "\"", x.look(5), 0);
        }
    }

    @Says(in = "Promise 7", words = "alone, blanks aside")
    static void namedAlone() {
        HailClub x = Check.book("member ann;member a;");
        Check.due("with blanks", named(x, " \n ann \n "), 0);
        String[] wrong = {"ann a", "a a", "ann;", "ann1", "1ann", "(a)", "ann\t", "member ann", "a nn", "ann\0"};
        for (String text : wrong) {
            Check.due("named \"" + text + "\"", named(x, text), -1);
        }
    }

    @Says(in = "Promise 7", words = "NONE: there is none")
    static void namedNobody() {
        HailClub x = Check.book("member ann;member a;");
        String[] wrong = {"", " ", "bob", "an", "annn", "Ann", "aa", "b", "loss", "member", "abcdefgh", "5"};
        for (String text : wrong) {
            Check.due("named \"" + text + "\"", named(x, text), -1);
        }
        Check.due("named in a new object", named(new HailClub(), "ann"), -1);
        Check.due("named nothing in a new object", named(new HailClub(), ""), -1);
    }
}
