/** Promises 8 to 19: STORMS, LEAVING, the END, undone; what there is and what would be. */
final class SentencesOfTheYear {
    private static final String THREE = "member a;member b;member c;field a 0 0 0 10 100;field b 1 0 0 10 100;"
        + "field c 2 0 0 10 100;";
    /** CLAIMS 5 and 30 in a STORM over all; ADVANCES 1 and 10; a owes DUES if it LEAVES. */
    private static final String ALL_IN_ONE = "member a;member b;field a 0 0 0 1 199;field b 1 0 0 10 100;rate 10;cap 1;"
        + "goal 50;pay 3;retain 20;cover 2 50;reserve 5;";

    private SentencesOfTheYear() {
    }

    private static HailClub allInOne() {
        HailClub x = Check.book(ALL_IN_ONE);
        x.storm(0, 0, 7, 7, 100);
        x.leave(0);
        return x;
    }

    /** Of a SURPLUS 20 goes 5 to the RESERVE. */
    private static HailClub withSurplus() {
        HailClub x = Check.book(THREE + "goal 1;reserve 25;pay 1;");
        x.storm(0, 0, 0, 0, 100);
        return x;
    }

    @Says(in = "Promise 8", words = "A STORM: how many FIELDS it is over")
    static void stormTellsFields() {
        HailClub x = Check.book("member a;member b;field a 2 3 0 1 1;field b 2 3 0 1 1;field a 4 5 0 1 1;");
        Check.due("storm over all", x.storm(0, 0, 7, 7, 1), 3);
        Check.due("storm over two", x.storm(2, 3, 3, 7, 1), 2);
        Check.due("storm over one", x.storm(4, 5, 4, 5, 100), 1);
        Check.due("storm over none", x.storm(5, 5, 7, 7, 1), 0);
        Check.due("STORMS", x.look(2), 4);
        x.leave(0);
        x.close();
        Check.due("storm with one GONE", x.storm(0, 0, 7, 7, 1), 1);
        Check.due("storm with nobody", new HailClub().storm(0, 0, 7, 7, 1), 0);
    }

    @Says(in = "Promise 8", words = "NONE: it can't be")
    static void stormThatCannotBe() {
        HailClub x = Check.book("member a;field a 0 0 0 1 1;");
        int[][] wrong = {{-1, 0, 0, 0, 1}, {0, -1, 0, 0, 1}, {0, 0, 8, 0, 1}, {0, 0, 0, 8, 1}, {3, 0, 2, 0, 1},
            {0, 3, 0, 2, 1}, {0, 0, 0, 0, 0}, {0, 0, 0, 0, 101}, {8, 0, 8, 0, 1}, {0, 8, 0, 8, 1}, {0, 0, -1, 0, 1},
            {0, 0, 0, -1, 1}, {0, 0, 7, 7, Integer.MAX_VALUE}, {0, 0, 7, 7, Integer.MIN_VALUE},
            {Integer.MIN_VALUE, Integer.MIN_VALUE, Integer.MAX_VALUE, Integer.MAX_VALUE, 1}};
        for (int[] s : wrong) {
            Check.due("storm(" + s[0] + ", " + s[1] + ", " + s[2] + ", " + s[3] + ", " + s[4] + ")",
                x.storm(s[0], s[1], s[2], s[3], s[4]), -1);
        }
        Check.due("STORMS", x.look(2), 0);
        Check.due("kept", x.look(4), 0);
        Check.due("LOST", x.field(0, 7), 0);
    }

    @Says(in = "Promise 8", words = "there are 16")
    static void sixteenStorms() {
        HailClub x = new HailClub();
        for (int i = 1; i <= 16; i++) {
            Check.due("storm " + i, x.storm(i % 8, 0, 7, 7, i), 0);
        }
        Check.due("storm 17", x.storm(0, 0, 0, 0, 1), -1);
        Check.due("STORMS", x.look(2), 16);
        Check.due("kept", x.look(4), 8);
        x.undo();
        Check.due("STORMS, one undone", x.look(2), 15);
        Check.due("storm 16 again", x.storm(0, 0, 0, 0, 1), 0);
    }

    @Says(in = "Promise 9", words = "A MEMBER LEAVES at the END: true")
    static void leaves() {
        HailClub x = Check.book("member a;member b;");
        Check.due("leave(1)", x.leave(1), true);
        Check.due("b LEAVES", x.member(1, 1), 1);
        Check.due("a LEAVES", x.member(0, 1), 0);
        Check.due("b is there yet", x.member(1, 0), 1);
        Check.due("MEMBERS yet", x.look(0), 2);
        x.close();
        Check.due("b is there", x.member(1, 0), 0);
        Check.due("a is there", x.member(0, 0), 1);
        Check.due("leave(0) then", x.leave(0), true);
        x.close();
        Check.due("MEMBERS", x.look(0), 0);
        // The last of twelve.
        x = Check.book(SentencesOfTheMap.members(12));
        Check.due("leave(11)", x.leave(11), true);
    }

    @Says(in = "Promise 9", words = "false: there is none such")
    static void leaveOfNoneSuch() {
        HailClub x = Check.book("member a;member b;");
        int[] none = {-1, 2, 11, 12, Integer.MIN_VALUE, Integer.MAX_VALUE};
        for (int member : none) {
            Check.due("leave(" + member + ")", x.leave(member), false);
        }
        Check.due("kept", x.look(4), 0);
        x.leave(1);
        x.close();
        Check.due("leave of one GONE", x.leave(1), false);
        Check.due("kept then", x.look(4), 2);
        Check.join(x, "c");
        x.undo();
        Check.due("leave of one that was undone", x.leave(2), false);
    }

    @Says(in = "Promise 9", words = "it does")
    static void leaveOfOneThatDoes() {
        HailClub x = Check.book("member a;member b;");
        x.leave(0);
        Check.due("leave(0) again", x.leave(0), false);
        Check.due("kept", x.look(4), 1);
        Check.due("it does", x.member(0, 1), 1);
        x.undo();
        Check.due("leave(0) with that undone", x.leave(0), true);
    }

    @Says(in = "Promise 10", words = "The END of the YEAR: LOSSES")
    static void closeTellsLosses() {
        HailClub x = allInOne();
        Check.due("close", x.close(), 35);
        Check.due("YEAR", x.look(3), 1);
        Check.due("RESERVE", x.club(1), 81);
        Check.due("MEMBERS", x.look(0), 1);
        Check.due("close of a calm YEAR", x.close(), 0);
        Check.due("YEAR then", x.look(3), 2);
        Check.due("close of one without FIELDS", Check.book("member a;").close(), 0);
    }

    @Says(in = "Promise 10", words = "NONE: nobody is there")
    static void closeWithNobody() {
        HailClub x = new HailClub();
        x.storm(0, 0, 0, 0, 1);
        Check.due("close", x.close(), -1);
        Check.due("YEAR", x.look(3), 0);
        Check.due("STORMS", x.look(2), 1);
        Check.due("kept", x.look(4), 1);
        x = Check.book("member a;");
        x.leave(0);
        Check.due("close with the last", x.close(), 0);
        Check.due("close with all GONE", x.close(), -1);
        Check.due("YEAR then", x.look(3), 1);
        Check.due("kept then", x.look(4), 2);
    }

    /** A club with something of all kinds, and nothing kept beside leave() and close(). */
    private static HailClub before() {
        HailClub x = allInOne();
        x.close();
        Check.join(x, "c 5 5 0 2 20");
        x.storm(5, 5, 6, 6, 10);
        return x;
    }

    /** One thing done behind that is undone; all is as it was. */
    private static void undone(HailClub x, String before, String what, boolean done) {
        Check.due(what + " is done", done, true);
        Check.due(what + " changes something", Check.all(x).equals(before), false);
        Check.due("undo of " + what, x.undo(), true);
        Check.due("all is as it was ahead of " + what, Check.all(x).equals(before), true);
    }

    @Says(in = "Promise 11", words = "The latest join()")
    static void joinIsUndone() {
        HailClub x = before();
        String before = Check.all(x);
        int kept = x.look(4);
        Check.put(x, "d 0 0 0 5 5 5 5 3 9 9");
        undone(x, before, "join()", x.join() > 0);
        Check.due("kept", x.look(4), kept);
        Check.due("MEMBERS in all", x.look(6), 3);
        Check.due("FIELDS in all", x.look(7), 3);
    }

    @Says(in = "Promise 11", words = "storm()")
    static void stormIsUndone() {
        HailClub x = before();
        undone(x, Check.all(x), "storm()", x.storm(0, 0, 7, 7, 50) == 2);
        Check.due("STORMS", x.look(2), 1);
    }

    @Says(in = "Promise 11", words = "leave()")
    static void leaveIsUndone() {
        HailClub x = before();
        undone(x, Check.all(x), "leave()", x.leave(2));
        Check.due("leave() anew", x.leave(2), true);
    }

    @Says(in = "Promise 11", words = "set()")
    static void setIsUndone() {
        int[] what = {0, 5, 6};
        for (int rule : what) {
            HailClub x = before();
            undone(x, Check.all(x), "set()", x.set(rule, 77));
        }
    }

    @Says(in = "Promise 11", words = "close()")
    static void closeIsUndone() {
        HailClub x = before();
        x.leave(1);
        undone(x, Check.all(x), "close()", x.close() == 1);
        // Also what then() tells, and the first END of all.
        x = allInOne();
        undone(x, Check.all(x), "close()", x.close() == 35);
        Check.due("then(0, 0)", x.then(0, 0), Long.MIN_VALUE);
        Check.due("close() anew", x.close(), 35);
        // With the STORMS of its YEAR, though another came in the next.
        x = before();
        String before = Check.all(x);
        x.close();
        x.storm(0, 0, 7, 7, 99);
        x.undo();
        Check.due("undo behind a STORM of the next YEAR", x.undo(), true);
        Check.due("all is as it was", Check.all(x).equals(before), true);
    }

    /** Twelve MEMBERS with two FIELDS each, of which the first of all are in one row, the others below them. */
    private static HailClub full() {
        StringBuilder text = new StringBuilder(SentencesOfTheMap.members(12));
        for (int field = 0; field < 24; field++) {
            text.append("field m").append((char) ('a' + field % 12)).append(' ').append(field % 8).append(' ')
                .append(field / 8).append(" 0 1 9").append(field % 10).append(';');
        }
        return Check.book(text.toString());
    }

    private static String numbers(HailClub x) {
        StringBuilder text = new StringBuilder();
        for (int member = 0; member < 12; member++) {
            text.append(x.member(member, 0)).append(' ').append(x.member(member, 1)).append(' ')
                .append(x.member(member, 2)).append(' ').append(x.then(member, 5)).append(' ');
        }
        for (int field = 0; field < 24; field++) {
            text.append(x.field(field, 6)).append(' ').append(x.field(field, 7)).append(' ');
        }
        return text.toString();
    }

    @Says(in = "Promise 11", words = "close()")
    static void closeOfAFullClubIsUndone() {
        HailClub x = full();
        x.storm(0, 0, 7, 7, 9);
        x.close();
        for (int i = 0; i < 16; i++) {
            x.storm(i % 8, i / 8, i % 8, i / 8 + 1, 10 + i);
        }
        x.leave(3);
        x.leave(11);
        String before = numbers(x);
        x.close();
        for (int i = 0; i < 7; i++) {
            x.storm(7, 2, 7, 2, 1 + i);
        }
        Check.due("the END changes something", numbers(x).equals(before), false);
        for (int i = 0; i < 8; i++) {
            Check.due("undo " + i, x.undo(), true);
        }
        Check.due("all is as it was", numbers(x).equals(before), true);
        Check.due("STORMS", x.look(2), 16);
        Check.due("undo of more", x.undo(), false);
    }

    @Says(in = "Promise 11", words = "that was done is undone")
    static void onlyWhatWasDone() {
        HailClub x = Check.book("member a;");
        x.set(0, 20);
        x.set(0, 30);
        // None of these is done, or can be undone.
        x.set(0, 30);
        x.set(1, 5);
        x.set(0, 1000);
        x.storm(0, 0, 8, 0, 1);
        x.storm(0, 0, 0, 0, 0);
        x.leave(1);
        Check.join(x, "a");
        Check.join(x, "!");
        Check.put(x, "!");
        x.book();
        Check.put(x, "a");
        x.named();
        x.now(0);
        x.mine(0, 0);
        x.worst(1, 1, 1, 1);
        x.rate();
        x.reserve();
        x.rank(0);
        Check.due("kept", x.look(4), 2);
        Check.due("undo", x.undo(), true);
        Check.due("RATE", x.club(0), 20);
        Check.due("undo again", x.undo(), true);
        Check.due("RATE then", x.club(0), 10);
        // The latest first.
        x.leave(0);
        x.set(5, 9);
        x.undo();
        Check.due("CAP", x.club(5), 4);
        Check.due("LEAVES", x.member(0, 1), 1);
        // THE TAPE is no part of it.
        Check.put(x, "abc");
        x.undo();
        Check.due("bytes", x.look(5), 3);
        Check.due("LEAVES no more", x.member(0, 1), 0);
    }

    @Says(in = "Promise 11", words = "8 at most are kept: true")
    static void eightAreKept() {
        for (int done = 7; done <= 18; done++) {
            HailClub x = new HailClub();
            for (int i = 1; i <= done; i++) {
                x.set(0, 100 + i);
            }
            int kept = Math.min(8, done);
            Check.due("kept of " + done, x.look(4), kept);
            for (int i = 1; i <= kept; i++) {
                Check.due("undo " + i, x.undo(), true);
                Check.due("RATE", x.club(0), done == i ? 10 : 100 + done - i);
                Check.due("kept then", x.look(4), kept - i);
            }
            Check.due("undo of one more", x.undo(), false);
            Check.due("RATE at last", x.club(0), done <= 8 ? 10 : 100 + done - 8);
            // Behind that eight can be kept anew.
            for (int i = 1; i <= 9; i++) {
                x.set(0, 200 + i);
            }
            Check.due("kept anew", x.look(4), 8);
            x.undo();
            Check.due("RATE anew", x.club(0), 208);
        }
    }

    @Says(in = "Promise 11", words = "false if there is none")
    static void undoOfNothing() {
        HailClub x = new HailClub();
        Check.due("undo in a new object", x.undo(), false);
        x.set(0, 50);
        Check.due("undo", x.undo(), true);
        Check.due("undo again: no way forth", x.undo(), false);
        Check.due("RATE", x.club(0), 10);
        x.set(0, 50);
        Check.put(x, "rate 60;");
        x.book();
        Check.due("undo behind a BOOK", x.undo(), false);
        Check.due("RATE of the BOOK", x.club(0), 60);
    }

    @Says(in = "Promise 12", words = "Of a MEMBER what 0 whether it is there (1, 0)")
    static void memberThere() {
        HailClub x = Check.book("member a;member b;");
        x.leave(0);
        Check.due("a that LEAVES", x.member(0, 0), 1);
        x.close();
        Check.due("a GONE", x.member(0, 0), 0);
        Check.due("b", x.member(1, 0), 1);
    }

    @Says(in = "Promise 12", words = "1 whether it LEAVES")
    static void memberLeaves() {
        HailClub x = Check.book("member a;member b;");
        x.leave(1);
        Check.due("a", x.member(0, 1), 0);
        Check.due("b", x.member(1, 1), 1);
        x.close();
        Check.due("b GONE", x.member(1, 1), 0);
    }

    @Says(in = "Promise 12", words = "2 YEARS")
    static void memberYears() {
        HailClub x = Check.book("member a;member b;");
        Check.due("at first", x.member(0, 2), 0);
        x.close();
        Check.due("then", x.member(0, 2), 1);
        x.leave(1);
        x.close();
        Check.due("behind two ENDS", x.member(0, 2), 2);
        Check.due("of one GONE", x.member(1, 2), 1);
    }

    @Says(in = "Promise 12", words = "3 how many FIELDS are there, 4 SUMS of these, 5 POINTS, 6 ADVANCE")
    static void memberSums() {
        HailClub x = Check.book("member a;member b;member c;field b 1 0 0 10 99;field a 0 0 0 1 20;field b 2 0 1 2 50;"
            + "hazard 1 0 1 0 3;rate 21;");
        long[][] want = {{1, 20, 20, 0}, {2, 1090, 3070, 64}, {0, 0, 0, 0}};
        for (int member = 0; member < 3; member++) {
            for (int what = 3; what <= 6; what++) {
                Check.due("member(" + member + ", " + what + ")", x.member(member, what), want[member][what - 3]);
            }
        }
        x.leave(1);
        x.close();
        for (int what = 3; what <= 6; what++) {
            Check.due("member(1, " + what + ") GONE", x.member(1, what), 0);
        }
    }

    @Says(in = "Promise 12", words = "7 CLAIMS as it stands")
    static void memberClaims() {
        HailClub x = Check.book("member a;member b;field b 1 0 0 10 99;field a 0 0 0 1 20;field b 2 0 1 2 50;crop 1 50;");
        Check.due("calm", x.member(1, 7), 0);
        x.storm(1, 0, 2, 0, 41);
        Check.due("CLAIMS", x.member(1, 7), 405 + 20);
        Check.due("CLAIMS of the other", x.member(0, 7), 0);
        x.storm(0, 0, 1, 0, 59);
        Check.due("CLAIMS with one more", x.member(1, 7), 990 + 20);
        Check.due("CLAIMS of the other then", x.member(0, 7), 11);
        x.leave(1);
        Check.due("CLAIMS of one that LEAVES", x.member(1, 7), 1010);
        x.close();
        x.storm(0, 0, 7, 7, 100);
        Check.due("CLAIMS of one GONE", x.member(1, 7), 0);
        Check.due("CLAIMS of the next YEAR", x.member(0, 7), 20);
    }

    @Says(in = "Promise 12", words = "NONE: there was never such one")
    static void memberNever() {
        HailClub x = Check.book("member a;member b;");
        int[] never = {-1, 2, 11, 12, Integer.MIN_VALUE, Integer.MAX_VALUE};
        for (int member : never) {
            for (int what = 0; what <= 7; what++) {
                Check.due("member(" + member + ", " + what + ")", x.member(member, what), -1);
            }
        }
        Check.join(x, "c");
        Check.due("one that JOINED", x.member(2, 0), 1);
        x.undo();
        Check.due("one that was undone", x.member(2, 0), -1);
        x.leave(0);
        x.close();
        Check.due("one GONE was", x.member(0, 0), 0);
    }

    @Says(in = "Promise 12", words = "or another what")
    static void memberAnotherWhat() {
        HailClub x = Check.book("member a;member b;");
        x.leave(1);
        x.close();
        int[] others = {-1, 8, 9, Integer.MIN_VALUE, Integer.MAX_VALUE};
        for (int what : others) {
            Check.due("member(0, " + what + ")", x.member(0, what), -1);
            Check.due("member(1, " + what + ") GONE", x.member(1, what), -1);
        }
    }

    @Says(in = "Promise 13", words = "Of a FIELD what 0 MEMBER, 1 x, 2 y, 3 CROP, 4 AREA, 5 VALUE")
    static void fieldAsItCame() {
        HailClub x = Check.book("member a;member b;field b 1 2 3 4 5;field a 7 6 2 99 999;");
        Check.join(x, "c 0 5 1 98 997");
        long[][] want = {{1, 1, 2, 3, 4, 5}, {0, 7, 6, 2, 99, 999}, {2, 0, 5, 1, 98, 997}};
        x.leave(1);
        for (int years = 0; years < 2; years++) {
            for (int field = 0; field < 3; field++) {
                for (int what = 0; what < 6; what++) {
                    Check.due("field(" + field + ", " + what + ")", x.field(field, what), want[field][what]);
                }
            }
            x.close();
        }
    }

    @Says(in = "Promise 13", words = "6 whether it is there (1, 0)")
    static void fieldThere() {
        HailClub x = Check.book("member a;member b;field b 0 0 0 1 1;field a 0 0 0 1 1;");
        x.leave(1);
        Check.due("of one that LEAVES", x.field(0, 6), 1);
        x.close();
        Check.due("of one GONE", x.field(0, 6), 0);
        Check.due("of the other", x.field(1, 6), 1);
        x.undo();
        Check.due("of one that is back", x.field(0, 6), 1);
    }

    @Says(in = "Promise 13", words = "7 LOST, 8 PAID by the hundred, 9 CLAIM as it stands")
    static void fieldLost() {
        HailClub x = Check.book("member a;field a 3 4 1 7 11;crop 1 150;pay loss-10;");
        long[] calm = {0, 0, 0};
        long[] once = {60, 50, 38};
        long[] twice = {75, 65, 50};
        fieldIs(x, calm);
        x.storm(3, 4, 3, 4, 40);
        fieldIs(x, once);
        x.storm(0, 0, 7, 7, 10);
        fieldIs(x, twice);
        x.undo();
        fieldIs(x, once);
        x.close();
        fieldIs(x, calm);
    }

    private static void fieldIs(HailClub x, long[] want) {
        for (int what = 7; what <= 9; what++) {
            Check.due("field(0, " + what + ")", x.field(0, what), want[what - 7]);
        }
    }

    @Says(in = "Promise 13", words = "(7 to 9 of one that is GONE: 0)")
    static void fieldGone() {
        HailClub x = Check.book("member a;field a 3 4 1 7 11;");
        x.leave(0);
        x.storm(0, 0, 7, 7, 100);
        fieldIs(x, new long[] {100, 100, 77});
        x.close();
        x.storm(0, 0, 7, 7, 100);
        fieldIs(x, new long[] {0, 0, 0});
    }

    @Says(in = "Promise 13", words = "NONE: there was never such one")
    static void fieldNever() {
        HailClub x = Check.book("member a;field a 0 0 0 1 1;field a 0 0 0 1 1;");
        int[] never = {-1, 2, 23, 24, Integer.MIN_VALUE, Integer.MAX_VALUE};
        for (int field : never) {
            for (int what = 0; what <= 9; what++) {
                Check.due("field(" + field + ", " + what + ")", x.field(field, what), -1);
            }
        }
        Check.join(x, "b 0 0 0 1 1");
        Check.due("one that came", x.field(2, 0), 1);
        x.undo();
        Check.due("one that was undone", x.field(2, 0), -1);
    }

    @Says(in = "Promise 13", words = "or another what")
    static void fieldAnotherWhat() {
        HailClub x = Check.book("member a;member b;field a 0 0 0 1 1;field b 0 0 0 1 1;");
        x.leave(1);
        x.close();
        int[] others = {-1, 10, 11, Integer.MIN_VALUE, Integer.MAX_VALUE};
        for (int what : others) {
            Check.due("field(0, " + what + ")", x.field(0, what), -1);
            Check.due("field(1, " + what + ") GONE", x.field(1, what), -1);
        }
    }

    @Says(in = "Promise 14", words = "HAZARD of a CELL")
    static void hazardOfACell() {
        HailClub x = Check.book("hazard 0 7 0 7 2;hazard 7 0 7 0 3;hazard 7 7 7 7 4;hazard 3 5 3 5 9;");
        int[][] want = {{0, 7, 2}, {7, 0, 3}, {7, 7, 4}, {3, 5, 9}, {5, 3, 1}, {0, 0, 1}};
        for (int[] cell : want) {
            Check.due("hazard(" + cell[0] + ", " + cell[1] + ")", x.hazard(cell[0], cell[1]), cell[2]);
        }
    }

    @Says(in = "Promise 14", words = "NONE: there is none such")
    static void hazardOfNone() {
        HailClub x = new HailClub();
        int[] never = {-1, 8, 64, Integer.MIN_VALUE, Integer.MAX_VALUE};
        for (int n : never) {
            Check.due("hazard(" + n + ", 0)", x.hazard(n, 0), -1);
            Check.due("hazard(0, " + n + ")", x.hazard(0, n), -1);
            Check.due("hazard(" + n + ", " + n + ")", x.hazard(n, n), -1);
        }
    }

    @Says(in = "Promise 15", words = "As it would be at the END as it stands")
    static void nowIsAsTheEndWouldBe() {
        HailClub x = allInOne();
        long losses = x.now(0);
        long reserve = x.now(10);
        long first = x.mine(0, 5);
        long second = x.mine(1, 5);
        Check.due("RESERVE yet", x.club(1), 5);
        Check.due("YEAR yet", x.look(3), 0);
        Check.due("now(0) again", x.now(0), losses);
        Check.due("close", x.close(), losses);
        Check.due("RESERVE", x.club(1), reserve);
        Check.due("then(0, 5)", x.then(0, 5), first);
        Check.due("then(1, 5)", x.then(1, 5), second);
        // Each thing done is in it at once.
        x = withSurplus();
        Check.due("GIVEN BACK", x.now(5), 15);
        x.set(6, 0);
        Check.due("GIVEN BACK with another GOAL", x.now(5), 20);
        x.set(0, 20);
        Check.due("GIVEN BACK with another RATE", x.now(5), 50);
        x.storm(1, 0, 1, 0, 100);
        Check.due("GIVEN BACK with one STORM more", x.now(5), 40);
        x.undo();
        Check.due("GIVEN BACK with that undone", x.now(5), 50);
        x.leave(1);
        Check.due("GIVEN BACK with one that LEAVES", x.now(5), 50);
    }

    @Says(in = "Promise 15", words = "what 0 LOSSES")
    static void nowLosses() {
        Check.due("now(0)", allInOne().now(0), 35);
        Check.due("now(0) of a SURPLUS", withSurplus().now(0), 10);
        Check.due("now(0) of a calm YEAR", Check.book(THREE).now(0), 0);
    }

    @Says(in = "Promise 15", words = "1 AGAIN")
    static void nowAgain() {
        // The half of 2 of the 15 above 20.
        Check.due("now(1)", allInOne().now(1), 1);
        Check.due("now(1) of a SURPLUS", withSurplus().now(1), 0);
    }

    @Says(in = "Promise 15", words = "2 NET")
    static void nowNet() {
        Check.due("now(2)", allInOne().now(2), 34);
        Check.due("now(2) of a SURPLUS", withSurplus().now(2), 10);
    }

    @Says(in = "Promise 15", words = "3 ADVANCES")
    static void nowAdvances() {
        Check.due("now(3)", allInOne().now(3), 11);
        Check.due("now(3) of a SURPLUS", withSurplus().now(3), 30);
    }

    @Says(in = "Promise 15", words = "4 what goes to the RESERVE (of SURPLUS)")
    static void nowToTheReserve() {
        // Not the DUES.
        Check.due("now(4)", allInOne().now(4), 0);
        Check.due("now(4) of a SURPLUS", withSurplus().now(4), 5);
    }

    @Says(in = "Promise 15", words = "5 GIVEN BACK in all")
    static void nowGivenBack() {
        Check.due("now(5)", allInOne().now(5), 0);
        Check.due("now(5) of a SURPLUS", withSurplus().now(5), 15);
    }

    @Says(in = "Promise 15", words = "6 what the RESERVE bears")
    static void nowBorne() {
        Check.due("now(6)", allInOne().now(6), 2);
        Check.due("now(6) of a SURPLUS", withSurplus().now(6), 0);
    }

    @Says(in = "Promise 15", words = "7 CALLED in all")
    static void nowCalled() {
        Check.due("now(7)", allInOne().now(7), 11);
        Check.due("now(7) of a SURPLUS", withSurplus().now(7), 0);
    }

    @Says(in = "Promise 15", words = "8 CUT in all")
    static void nowCut() {
        Check.due("now(8)", allInOne().now(8), 10);
        Check.due("now(8) of a SURPLUS", withSurplus().now(8), 0);
    }

    @Says(in = "Promise 15", words = "9 DUES in all")
    static void nowDues() {
        Check.due("now(9)", allInOne().now(9), 78);
        Check.due("now(9) of a SURPLUS", withSurplus().now(9), 0);
        HailClub x = Check.book(THREE + "rate 0;goal 10;");
        x.leave(0);
        x.leave(1);
        Check.due("now(9) of two", x.now(9), 128);
    }

    @Says(in = "Promise 15", words = "10 the RESERVE behind it")
    static void nowReserveBehind() {
        Check.due("now(10)", allInOne().now(10), 5 - 2 + 78);
        Check.due("now(10) of a SURPLUS", withSurplus().now(10), 30);
        Check.due("now(10) of the most", Check.book("member a;reserve 99999999;").now(10), 99999999);
    }

    @Says(in = "Promise 15", words = "NONE: nobody is there")
    static void nowWithNobody() {
        HailClub x = Check.book("reserve 5;");
        HailClub y = Check.book("member a;reserve 5;");
        y.leave(0);
        y.close();
        for (int what = 0; what <= 10; what++) {
            Check.due("now(" + what + ")", x.now(what), -1);
            Check.due("now(" + what + ") with all GONE", y.now(what), -1);
        }
    }

    @Says(in = "Promise 15", words = "or another what")
    static void nowOfAnotherWhat() {
        HailClub x = allInOne();
        int[] others = {-1, 11, 12, Integer.MIN_VALUE, Integer.MAX_VALUE};
        for (int what : others) {
            Check.due("now(" + what + ")", x.now(what), -1);
        }
    }

    @Says(in = "Promise 16", words = "Likewise of a MEMBER that is there what 0 CLAIMS")
    static void mineClaims() {
        Check.each(allInOne(), 0, 5, 30);
        Check.each(withSurplus(), 0, 10, 0, 0);
    }

    @Says(in = "Promise 16", words = "1 CUT")
    static void mineCut() {
        // Of 10 by 5 and 30: 1 and 8, and the rest is b's.
        Check.each(allInOne(), 1, 1, 9);
        Check.each(withSurplus(), 1, 0, 0, 0);
    }

    @Says(in = "Promise 16", words = "2 GIVEN BACK")
    static void mineGivenBack() {
        Check.each(allInOne(), 2, 0, 0);
        Check.each(withSurplus(), 2, 5, 5, 5);
    }

    @Says(in = "Promise 16", words = "3 CALLED")
    static void mineCalled() {
        Check.each(allInOne(), 3, 1, 10);
        Check.each(withSurplus(), 3, 0, 0, 0);
    }

    @Says(in = "Promise 16", words = "4 DUES")
    static void mineDues() {
        // GOAL 599 less 3 is 596, by 199 of 1199 it is 98, four fifths 78.
        Check.each(allInOne(), 4, 78, 0);
        Check.each(withSurplus(), 4, 0, 0, 0);
    }

    @Says(in = "Promise 16", words = "5 BALANCE")
    static void mineBalance() {
        Check.each(allInOne(), 5, 5 - 1 - 1 - 1 - 78, 30 - 9 - 10 - 10);
        Check.each(withSurplus(), 5, 10 + 5 - 10, 5 - 10, 5 - 10);
    }

    @Says(in = "Promise 16", words = "Long.MIN_VALUE: there is none such")
    static void mineOfNoneSuch() {
        HailClub x = allInOne();
        x.close();
        int[] never = {-1, 0, 2, 11, 12, Integer.MIN_VALUE, Integer.MAX_VALUE};
        for (int member : never) {
            for (int what = 0; what <= 5; what++) {
                Check.due("mine(" + member + ", " + what + ")", x.mine(member, what), Long.MIN_VALUE);
            }
        }
        Check.due("mine of the one that is there", x.mine(1, 0), 0);
    }

    @Says(in = "Promise 16", words = "or another what")
    static void mineOfAnotherWhat() {
        HailClub x = allInOne();
        int[] others = {-1, 6, 7, Integer.MIN_VALUE, Integer.MAX_VALUE};
        for (int what : others) {
            Check.due("mine(0, " + what + ")", x.mine(0, what), Long.MIN_VALUE);
        }
    }

    @Says(in = "Promise 17", words = "The same of the latest END that was done")
    static void thenOfTheLatest() {
        HailClub x = allInOne();
        x.close();
        long[][] want = {{5, 1, 0, 1, 78, -76}, {30, 9, 0, 10, 0, 1}};
        for (int member = 0; member < 2; member++) {
            for (int what = 0; what <= 5; what++) {
                Check.due("then(" + member + ", " + what + ")", x.then(member, what), want[member][what]);
            }
        }
        // What comes behind it doesn't change it, an END that can't be neither.
        x.storm(0, 0, 7, 7, 100);
        x.set(0, 999);
        x.leave(1);
        Check.due("then(1, 0) yet", x.then(1, 0), 30);
        Check.due("then(1, 5) yet", x.then(1, 5), 1);
        x.close();
        Check.due("then(1, 0) of the next", x.then(1, 0), 30);
        // ADVANCE 999, NET 30 less 1: the rest goes to the RESERVE up to 500; no DUES are owed of what is above.
        Check.due("then(1, 3) of the next", x.then(1, 3), 0);
        x.close();
        Check.due("then(1, 0) behind an END that can't be", x.then(1, 0), 30);
        x.undo();
        Check.due("then(1, 3) of the one before", x.then(1, 3), 10);
        HailClub y = withSurplus();
        y.close();
        long[] given = {5, 5, 5};
        for (int member = 0; member < 3; member++) {
            Check.due("then(" + member + ", 2)", y.then(member, 2), given[member]);
        }
    }

    @Says(in = "Promise 17", words = "(of a MEMBER that was there then)")
    static void thenOfThoseThatWereThere() {
        HailClub x = Check.book("member a;member b;");
        x.leave(0);
        x.close();
        Check.due("then of one that LEFT in it", x.then(0, 0), 0);
        Check.join(x, "c");
        Check.due("then of one that JOINED since", x.then(2, 0), Long.MIN_VALUE);
        x.close();
        Check.due("then of one that LEFT before", x.then(0, 0), Long.MIN_VALUE);
        Check.due("then of one that was there", x.then(2, 0), 0);
        Check.due("then of the other", x.then(1, 0), 0);
    }

    @Says(in = "Promise 17", words = "Long.MIN_VALUE: there was none")
    static void thenWithoutAnEnd() {
        HailClub x = allInOne();
        for (int what = 0; what <= 5; what++) {
            Check.due("then(0, " + what + ")", x.then(0, what), Long.MIN_VALUE);
        }
        x.close();
        x.undo();
        Check.due("then with the END undone", x.then(0, 0), Long.MIN_VALUE);
        Check.put(x, "!");
        x.close();
        x.book();
        Check.due("then behind a BOOK with a FAULT", x.then(0, 0), 5);
        Check.put(x, ALL_IN_ONE);
        x.book();
        Check.due("then behind a BOOK", x.then(0, 0), Long.MIN_VALUE);
    }

    @Says(in = "Promise 17", words = "none such")
    static void thenOfNoneSuch() {
        HailClub x = Check.book("member a;member b;");
        x.close();
        int[] never = {-1, 2, 11, 12, Integer.MIN_VALUE, Integer.MAX_VALUE};
        for (int member : never) {
            Check.due("then(" + member + ", 0)", x.then(member, 0), Long.MIN_VALUE);
        }
        x = Check.book(SentencesOfTheMap.members(12));
        x.close();
        Check.due("then(11, 5)", x.then(11, 5), 0);
    }

    @Says(in = "Promise 17", words = "or another what")
    static void thenOfAnotherWhat() {
        HailClub x = Check.book("member a;");
        x.close();
        int[] others = {-1, 6, 7, Integer.MIN_VALUE, Integer.MAX_VALUE};
        for (int what : others) {
            Check.due("then(0, " + what + ")", x.then(0, what), Long.MIN_VALUE);
        }
    }

    @Says(in = "Promise 18", words = "0 RATE, 1 RESERVE, 2 RETAIN, 3 COVER, 4 BY, 5 CAP, 6 GOAL by the hundred")
    static void clubRules() {
        HailClub x = Check.book("rate 11;reserve 22;retain 33;cover 44 55;cap 66;goal 77;");
        for (int what = 0; what <= 6; what++) {
            Check.due("club(" + what + ")", x.club(what), 11 * (what + 1));
        }
    }

    @Says(in = "Promise 18", words = "7 the GOAL in COINS")
    static void clubGoal() {
        HailClub x = Check.book("member a;member b;field a 0 0 0 1 100;field b 1 0 0 1 99;hazard 0 0 7 7 9;goal 50;");
        Check.due("GOAL of 199", x.club(7), 99);
        x.set(6, 100);
        Check.due("GOAL of all", x.club(7), 199);
        x.set(6, 0);
        Check.due("GOAL of none", x.club(7), 0);
        x.set(6, 33);
        x.leave(0);
        x.close();
        Check.due("GOAL with one GONE", x.club(7), 32);
    }

    @Says(in = "Promise 18", words = "8 all SUMS, 9 all POINTS")
    static void clubSums() {
        HailClub x = Check.book("member a;member b;field a 0 0 0 2 50;field b 1 0 0 1 99;hazard 1 0 1 0 9;");
        Check.due("SUMS", x.club(8), 199);
        Check.due("POINTS", x.club(9), 991);
        x.leave(1);
        Check.due("SUMS with one that LEAVES", x.club(8), 199);
        x.close();
        Check.due("SUMS with one GONE", x.club(8), 100);
        Check.due("POINTS with one GONE", x.club(9), 100);
        Check.join(x, "c 1 0 0 1 1");
        Check.due("SUMS with one more", x.club(8), 101);
        Check.due("POINTS with one more", x.club(9), 109);
        // The most there can be.
        x = Check.book("member a;hazard 0 0 7 7 9;" + "field a 0 0 0 99 999;".repeat(24));
        Check.due("the most SUMS", x.club(8), 2373624);
        Check.due("the most POINTS", x.club(9), 21362616);
    }

    @Says(in = "Promise 18", words = "NONE for another what")
    static void clubOfAnotherWhat() {
        HailClub x = Check.book(THREE);
        int[] others = {-1, 10, 11, Integer.MIN_VALUE, Integer.MAX_VALUE};
        for (int what : others) {
            Check.due("club(" + what + ")", x.club(what), -1);
        }
    }

    @Says(in = "Promise 19", words = "RATE, CAP or GOAL (what 0, 5, 6 as club() has it) is v from now on: true")
    static void sets() {
        int[][] fine = {{0, 999}, {0, 0}, {0, 500}, {5, 99}, {5, 0}, {5, 50}, {6, 100}, {6, 0}, {6, 50}};
        HailClub x = Check.book("rate 1;reserve 22;retain 33;cover 44 55;cap 2;goal 3;");
        long[] want = {1, 22, 33, 44, 55, 2, 3};
        for (int[] pair : fine) {
            Check.due("set(" + pair[0] + ", " + pair[1] + ")", x.set(pair[0], pair[1]), true);
            want[pair[0]] = pair[1];
            for (int what = 0; what < want.length; what++) {
                Check.due("club(" + what + ")", x.club(what), want[what]);
            }
        }
        // From now on: the next YEAR, too.
        x = Check.book(THREE);
        x.set(0, 20);
        x.close();
        Check.due("ADVANCES", x.now(3), 60);
    }

    @Says(in = "Promise 19", words = "false: another what")
    static void setOfAnotherWhat() {
        HailClub x = Check.book("rate 1;reserve 22;retain 33;cover 44 55;cap 2;goal 3;");
        int[] others = {-1, 1, 2, 3, 4, 7, 8, 9, Integer.MIN_VALUE, Integer.MAX_VALUE};
        for (int what : others) {
            Check.due("set(" + what + ", 7)", x.set(what, 7), false);
        }
        long[] want = {1, 22, 33, 44, 55, 2, 3};
        for (int what = 0; what < want.length; what++) {
            Check.due("club(" + what + ")", x.club(what), want[what]);
        }
        Check.due("kept", x.look(4), 0);
    }

    @Says(in = "Promise 19", words = "it can't be")
    static void setThatCannotBe() {
        HailClub x = new HailClub();
        int[][] wrong = {{0, -1}, {0, 1000}, {5, -1}, {5, 100}, {6, -1}, {6, 101}, {0, Integer.MAX_VALUE},
            {5, Integer.MIN_VALUE}, {6, Integer.MAX_VALUE}};
        for (int[] pair : wrong) {
            Check.due("set(" + pair[0] + ", " + pair[1] + ")", x.set(pair[0], pair[1]), false);
        }
        Check.due("RATE", x.club(0), 10);
        Check.due("CAP", x.club(5), 4);
        Check.due("GOAL", x.club(6), 10);
        Check.due("kept", x.look(4), 0);
    }

    @Says(in = "Promise 19", words = "it is so")
    static void setAsItIs() {
        HailClub x = new HailClub();
        int[][] same = {{0, 10}, {5, 4}, {6, 10}};
        for (int[] pair : same) {
            Check.due("set(" + pair[0] + ", " + pair[1] + ")", x.set(pair[0], pair[1]), false);
        }
        Check.due("kept", x.look(4), 0);
        x.set(0, 11);
        Check.due("set(0, 11) again", x.set(0, 11), false);
        Check.due("set(0, 10)", x.set(0, 10), true);
        Check.due("kept then", x.look(4), 2);
    }
}
