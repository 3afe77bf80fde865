/** Promises 5, 9, 11, 12 and 24: who JOINS, LEAVES, is there; what is undone. */
public final class MemberTest {
    public static void main(String[] args) {
        whoJoinsBuysIn();
        buyingInIsCutAndBounded();
        joinFaults();
        joinOneTooMany();
        leaving();
        memberTellsAll();
        nearTellsNeighbours();
        undoTakesBackEach();
        undoKeepsEight();
        undoIsForWhatWasDone();
        undoLeavesTheTape();
        Check.close("MemberTest");
    }

    private static void whoJoinsBuysIn() {
        HailClub x = Check.book("member a;field a 0 0 0 30 100;reserve 1000;");
        Check.due("join", Check.join(x, "b 1 1 0 10 100\n2 2 1 10 100"), 666);
        Check.due("RESERVE", x.club(1), 1666);
        Check.due("TAPE", x.look(5), 0);
        Check.due("MEMBERS", x.look(6), 2);
        Check.due("FIELDS", x.look(7), 3);
        long[] first = {1, 1, 1, 0, 10, 100, 1, 0, 0, 0};
        long[] second = {1, 2, 2, 1, 10, 100, 1, 0, 0, 0};
        for (int what = 0; what < first.length; what++) {
            Check.due("field(1, " + what + ")", x.field(1, what), first[what]);
            Check.due("field(2, " + what + ")", x.field(2, what), second[what]);
        }
        Check.due("POINTS", x.member(1, 5), 2000);
        Check.due("YEARS", x.member(1, 2), 0);
        Check.due("join without FIELDS", Check.join(x, " c "), 0);
        Check.due("RESERVE then", x.club(1), 1666);
        Check.due("MEMBERS then", x.look(0), 3);
        Check.due("FIELDS of c", x.member(2, 3), 0);
    }

    private static void buyingInIsCutAndBounded() {
        HailClub x = Check.book("hazard 3 3 3 3 5;reserve 10;");
        Check.due("join of the first", Check.join(x, "a 3 3 0 1 100"), 0);
        Check.due("join by POINTS", Check.join(x, "b 3 3 0 1 30 0 0 0 1 100"), 5);
        Check.due("RESERVE", x.club(1), 15);
        x = Check.book("member a;reserve 500;");
        Check.due("join among those without POINTS", Check.join(x, "b 0 0 0 1 1"), 0);
        x = Check.book("member a;field a 0 0 0 1 10;reserve 99999999;");
        Check.due("join at most", Check.join(x, "b 0 0 0 1 1"), 9999999);
        Check.due("RESERVE at most", x.club(1), 109999998);
        x.undo();
        Check.due("join above most", Check.join(x, "b 0 0 0 10 99"), 9999999);
        x = Check.book("member a;field a 0 0 0 1 1;reserve 7;");
        Check.due("join by one POINT", Check.join(x, "b 0 0 0 1 3"), 21);
        x = Check.book("member a;field a 0 0 0 1 10;reserve 99999989;");
        Check.due("join below most", Check.join(x, "b 0 0 0 1 1"), 9999998);
        x = Check.book("member a;field a 0 0 0 1 10;member b;field b 0 0 0 1 10;reserve 100;goal 0;rate 0;");
        x.leave(0);
        x.close();
        Check.due("join beside one that is GONE", Check.join(x, "c 0 0 0 1 5"), 50);
    }

    private static void joinFault(String text, int fault, int place) {
        HailClub x = Check.book("member ann;field ann 0 0 0 1 100;member bob;reserve 100;");
        x.leave(1);
        x.close();
        Check.due("join of \"" + text + "\"", Check.join(x, text), -1);
        Check.due("fault(0) of \"" + text + "\"", x.fault(0), fault);
        Check.due("fault(1) of \"" + text + "\"", x.fault(1), place);
        Check.due("TAPE", x.look(5), 0);
        Check.due("MEMBERS", x.look(6), 2);
        Check.due("FIELDS", x.look(7), 1);
        Check.due("RESERVE", x.club(1), 100);
        Check.due("undo", x.look(4), 2);
        Check.due("there", x.look(0), 1);
    }

    private static void joinFaults() {
        joinFault("", 1, 0);
        joinFault("  ", 1, 2);
        joinFault(";", 1, 0);
        joinFault("1", 1, 0);
        joinFault("member c", 1, 0);
        joinFault("join c", 1, 0);
        joinFault("abcdefgh", 1, 0);
        joinFault("ann", 2, 0);
        joinFault(" ann 9", 2, 1);
        joinFault("bob", 2, 0);
        joinFault("c;", 1, 1);
        joinFault("c 0 0 0 1 1;", 1, 11);
        joinFault("c 0 0 0 1 1,", 1, 11);
        joinFault("c 0 0 0 1", 1, 9);
        joinFault("c 0 0 0 1 1 0", 1, 13);
        joinFault("c 0 0 0 1 1 \n", 0, -1, 0);
        joinFault("c d", 1, 2);
        joinFault("c 8 0 0 1 1", 4, 2);
        joinFault("c 0 8 0 1 1", 4, 4);
        joinFault("c 0 0 4 1 1", 4, 6);
        joinFault("c 0 0 0 0 1", 4, 8);
        joinFault("c 0 0 0 100 1", 4, 8);
        joinFault("c 0 0 0 1 0", 4, 10);
        joinFault("c 0 0 0 1 1000", 4, 10);
        joinFault("c 0 0 0 1 1 0 0 0 1 000000001", 1, 20);
    }

    /** One without FAULT, its price. */
    private static void joinFault(String text, int fault, int place, int price) {
        HailClub x = Check.book("member ann;field ann 0 0 0 1 100;");
        Check.due("join of \"" + text + "\"", Check.join(x, text), price);
        Check.due("fault(0) of \"" + text + "\"", x.fault(0), fault);
        Check.due("fault(1) of \"" + text + "\"", x.fault(1), place);
    }

    private static void joinOneTooMany() {
        HailClub x = new HailClub();
        for (int i = 0; i < 12; i++) {
            Check.due("join " + i, Check.join(x, "m" + (char) ('a' + i) + (i < 11 ? " 1 1 0 1 1 2 2 0 1 1" : "")), 0);
        }
        Check.due("FIELDS", x.look(7), 22);
        tooMany(x, " mm", 5, 1);
        tooMany(x, " mm 9", 5, 1);
        tooMany(x, " ma", 2, 1);
        tooMany(x, " toolongx", 1, 1);
        x.undo();
        Check.due("join with two FIELDS", Check.join(x, "mn 1 1 0 1 1 2 2 0 1 1"), 0);
        x.undo();
        tooMany(x, "mn 1 1 0 1 1 2 2 0 1 1 3 3 0 1 1", 5, 23);
        tooMany(x, "mn 1 1 0 1 1 2 2 0 1 1 3", 5, 23);
        tooMany(x, "mn 1 1 0 1 1 2 2 0 1 1 8", 4, 23);
        tooMany(x, "mn 1 1 0 1 1 2 2 0 1 1 000000003", 1, 23);
        tooMany(x, "mn 1 1 0 1 1 2 2 0 1 1 x", 1, 23);
        tooMany(x, "mn 1 1 0 1 1 2 2 0 1 100000 3", 4, 21);
        x.leave(3);
        x.close();
        Check.due("FIELDS there", x.look(1), 20);
        tooMany(x, "mn 1 1 0 1 1 2 2 0 1 1 3 3 0 1 1", 5, 23);
        Check.due("join again", Check.join(x, "mn"), 0);
        tooMany(x, "mo", 5, 0);
    }

    private static void tooMany(HailClub x, String text, int fault, int place) {
        int members = x.look(6);
        int fields = x.look(7);
        Check.due("join of \"" + text + "\"", Check.join(x, text), -1);
        Check.due("fault(0) of \"" + text + "\"", x.fault(0), fault);
        Check.due("fault(1) of \"" + text + "\"", x.fault(1), place);
        Check.due("MEMBERS", x.look(6), members);
        Check.due("FIELDS", x.look(7), fields);
    }

    private static void leaving() {
        HailClub x = Check.book("member a;member b;field b 0 0 0 1 10;field a 0 0 0 1 20;");
        Check.due("leave(2)", x.leave(2), false);
        Check.due("leave(-1)", x.leave(-1), false);
        Check.due("leave(12)", x.leave(12), false);
        Check.due("leave(most)", x.leave(Integer.MAX_VALUE), false);
        Check.due("leave(1)", x.leave(1), true);
        Check.due("leave(1) again", x.leave(1), false);
        Check.due("LEAVES", x.member(1, 1), 1);
        Check.due("LEAVES not", x.member(0, 1), 0);
        Check.due("there yet", x.member(1, 0), 1);
        x.close();
        Check.due("GONE", x.member(1, 0), 0);
        Check.due("leave of one that is GONE", x.leave(1), false);
        Check.due("FIELD that is GONE", x.field(0, 6), 0);
        Check.due("FIELD that is there", x.field(1, 6), 1);
        Check.due("MEMBERS there", x.look(0), 1);
        Check.due("FIELDS there", x.look(1), 1);
        Check.due("MEMBERS in all", x.look(6), 2);
        Check.due("FIELDS in all", x.look(7), 2);
        Check.due("SUMS", x.club(8), 20);
        x.leave(0);
        x.close();
        Check.due("nobody is there", x.look(0), 0);
        Check.due("close with nobody", x.close(), -1);
        Check.due("join behind them", Check.join(x, "c 0 0 0 1 1"), 0);
        Check.due("its number", x.look(6), 3);
        Check.due("its FIELD's", x.field(2, 0), 2);
    }

    private static void memberTellsAll() {
        HailClub x = Check.book("member a;member b;field b 1 0 0 10 99;field a 0 0 0 1 20;field b 2 0 1 2 50;"
            + "hazard 1 0 1 0 3;rate 21;crop 1 50;");
        x.storm(0, 0, 7, 7, 41);
        long[] b = {1, 0, 0, 2, 1090, 3070, 64, 405 + 20};
        for (int what = 0; what < b.length; what++) {
            Check.due("member(1, " + what + ")", x.member(1, what), b[what]);
        }
        Check.due("member(1, 8)", x.member(1, 8), -1);
        Check.due("member(1, -1)", x.member(1, -1), -1);
        Check.due("member(2, 0)", x.member(2, 0), -1);
        Check.due("member(-1, 0)", x.member(-1, 0), -1);
        x.close();
        x.leave(1);
        x.close();
        long[] gone = {0, 0, 1, 0, 0, 0, 0, 0};
        for (int what = 0; what < gone.length; what++) {
            Check.due("member(1, " + what + ") GONE", x.member(1, what), gone[what]);
        }
        Check.due("member(1, 8) GONE", x.member(1, 8), -1);
        Check.due("YEARS of a", x.member(0, 2), 2);
        long[] land = {1, 1, 0, 0, 10, 99, 0, 0, 0, 0};
        x.storm(0, 0, 7, 7, 50);
        for (int what = 0; what < land.length; what++) {
            Check.due("field(0, " + what + ") GONE", x.field(0, what), land[what]);
        }
    }

    private static void nearTellsNeighbours() {
        HailClub x = Check.book("member a;member b;member c;field b 3 3 0 1 1;field c 3 4 0 1 1;field c 0 7 0 1 1;"
            + "field a 7 0 0 1 1;");
        int[][] cells = {{3, 3, 6}, {2, 3, 2}, {4, 3, 2}, {3, 2, 2}, {3, 4, 6}, {2, 2, 0}, {4, 2, 0}, {2, 4, 4}, {3, 5, 4},
            {5, 3, 0}, {0, 7, 4}, {1, 7, 4}, {0, 6, 4}, {1, 6, 0}, {7, 0, 1}, {6, 0, 1}, {7, 1, 1}, {0, 0, 0}, {7, 7, 0},
            {-1, 0, -1}, {0, -1, -1}, {8, 7, -1}, {7, 8, -1}, {Integer.MIN_VALUE, 0, -1}};
        for (int[] cell : cells) {
            Check.due("near(" + cell[0] + ", " + cell[1] + ")", x.near(cell[0], cell[1]), cell[2]);
        }
        x.leave(1);
        x.close();
        Check.due("near with one GONE", x.near(3, 3), 4);
    }

    private static void undoTakesBackEach() {
        HailClub x = Check.book("member a;member b;field a 0 0 0 10 100;field b 1 0 0 10 100;reserve 1000;");
        x.storm(0, 0, 0, 0, 50);
        x.close();
        long balance = x.then(0, 5);
        Check.join(x, "c 0 0 0 1 500");
        x.storm(0, 0, 7, 7, 10);
        x.leave(1);
        x.set(0, 99);
        x.close();
        Check.due("undone close", x.undo(), true);
        Check.due("YEAR", x.look(3), 1);
        Check.due("STORMS", x.look(2), 1);
        Check.due("there again", x.member(1, 0), 1);
        Check.due("LEAVES again", x.member(1, 1), 1);
        Check.due("YEARS again", x.member(0, 2), 1);
        Check.due("the END before", x.then(0, 5), balance);
        Check.due("its MEMBERS", x.then(2, 5), Long.MIN_VALUE);
        Check.due("RATE", x.club(0), 99);
        Check.due("undone set", x.undo(), true);
        Check.due("RATE before", x.club(0), 10);
        Check.due("undone leave", x.undo(), true);
        Check.due("LEAVES before", x.member(1, 1), 0);
        Check.due("undone storm", x.undo(), true);
        Check.due("STORMS before", x.look(2), 0);
        Check.due("LOST before", x.field(0, 7), 0);
        long behind = x.club(1);
        Check.due("undone join", x.undo(), true);
        Check.due("MEMBERS before", x.look(6), 2);
        Check.due("FIELDS before", x.look(7), 2);
        Check.due("RESERVE before", x.club(1), behind - behind / 5);
        Check.due("member(2, 0) before", x.member(2, 0), -1);
        Check.due("undone close before", x.undo(), true);
        Check.due("no END", x.then(0, 5), Long.MIN_VALUE);
        Check.due("RESERVE at first", x.club(1), 1000);
        Check.due("CLAIM again", x.field(0, 9), 500);
        Check.due("undone storm before", x.undo(), true);
        Check.due("nothing is left", x.undo(), false);
        Check.due("join anew", Check.join(x, "c 0 0 0 1 500"), 250);
        Check.due("its number anew", x.field(2, 0), 2);
    }

    private static void undoKeepsEight() {
        HailClub x = new HailClub();
        for (int i = 1; i <= 11; i++) {
            x.set(0, 100 + i);
            Check.due("kept", x.look(4), Math.min(8, i));
        }
        for (int i = 10; i >= 3; i--) {
            Check.due("undo to " + i, x.undo(), true);
            Check.due("RATE of " + i, x.club(0), 100 + i);
            Check.due("kept at " + i, x.look(4), i - 3);
        }
        Check.due("the ninth undo", x.undo(), false);
        Check.due("RATE stays", x.club(0), 103);
        x.set(0, 5);
        Check.due("undo of one more", x.undo(), true);
        Check.due("RATE then", x.club(0), 103);
        Check.due("no undo of undo", x.undo(), false);
    }

    private static void undoIsForWhatWasDone() {
        HailClub x = new HailClub();
        x.storm(8, 0, 8, 0, 1);
        x.leave(0);
        x.close();
        x.set(0, 10);
        x.set(0, 1000);
        x.set(1, 5);
        x.undo();
        Check.join(x, "!");
        Check.due("kept of what was not done", x.look(4), 0);
        Check.join(x, "a");
        Check.due("kept of a join", x.look(4), 1);
        x.now(0);
        x.rank(0);
        x.worst(1, 1, 1, 1);
        Check.put(x, "a");
        x.named();
        Check.due("kept of questions", x.look(4), 1);
        Check.put(x, "strange");
        x.book();
        Check.due("kept behind a BOOK with a FAULT", x.look(4), 1);
        x.book();
        Check.due("kept behind a BOOK", x.look(4), 0);
    }

    private static void undoLeavesTheTape() {
        HailClub x = new HailClub();
        Check.join(x, "a");
        Check.put(x, "abc");
        Check.due("undo", x.undo(), true);
        Check.due("TAPE", x.look(5), 3);
        Check.due("MEMBERS", x.look(6), 0);
    }
}
