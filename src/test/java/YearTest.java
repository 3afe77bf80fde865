/** Promises 8, 10, 13 to 19 and 27: STORMS, and the END of a YEAR. */
public final class YearTest {
    private static final String THREE = "member a;member b;member c;field a 0 0 0 10 100;field b 1 0 0 10 100;"
        + "field c 2 0 0 10 100;";
    /** a with POINTS 199 and ADVANCE 1, b with POINTS 1000 and ADVANCE 10; a CALL is held at the ADVANCE. */
    private static final String UNEVEN = "member a;member b;field a 0 0 0 1 199;field b 1 0 1 10 100;rate 10;cap 1;goal 0;";

    public static void main(String[] args) {
        storms();
        stormsThatCannotBe();
        lostIsCutAndBounded();
        aSurplusIsDivided();
        aSurplusBuildsTheReserve();
        greatestRestsComeFirst();
        whatIsCoveredAgain();
        theReserveBearsItsHalf();
        callsAreHeldByRounds();
        whatNoCallBringsIsCut();
        callsWithoutPoints();
        oneCoinIsDivided();
        dues();
        duesByYears();
        closeIsTheNextYear();
        thenTellsTheLatestEnd();
        nowAndMineAreBounded();
        clubAndSet();
        lookAndHazard();
        Check.close("YearTest");
    }

    private static void now(HailClub x, long... want) {
        for (int what = 0; what < want.length; what++) {
            Check.due("now(" + what + ")", x.now(what), want[what]);
        }
    }

    private static void mine(HailClub x, int member, long... want) {
        for (int what = 0; what < want.length; what++) {
            Check.due("mine(" + member + ", " + what + ")", x.mine(member, what), want[what]);
        }
    }

    private static void storms() {
        HailClub x = Check.book("member a;field a 2 3 0 1 100;field a 4 5 0 1 100;field a 4 6 0 1 100;");
        Check.due("storm over all", x.storm(0, 0, 7, 7, 1), 3);
        Check.due("storm to its edge", x.storm(2, 3, 4, 5, 10), 2);
        Check.due("storm on a CELL", x.storm(4, 6, 4, 6, 100), 1);
        Check.due("storm beside", x.storm(3, 3, 3, 7, 100), 0);
        Check.due("STORMS", x.look(2), 4);
        Check.due("LOST of 0", x.field(0, 7), 11);
        Check.due("LOST of 1", x.field(1, 7), 11);
        Check.due("LOST of 2", x.field(2, 7), 100);
        for (int i = 5; i <= 16; i++) {
            Check.due("storm " + i, x.storm(0, 0, 0, 0, 1), 0);
        }
        Check.due("storm 17", x.storm(0, 0, 0, 0, 1), -1);
        Check.due("STORMS at most", x.look(2), 16);
        x.leave(0);
        x.close();
        Check.due("storm with nobody", x.storm(0, 0, 7, 7, 1), 0);
        Check.due("STORMS with nobody", x.look(2), 1);
    }

    private static void stormsThatCannotBe() {
        HailClub x = new HailClub();
        int[][] wrong = {{-1, 0, 0, 0, 1}, {0, -1, 0, 0, 1}, {0, 0, 8, 0, 1}, {0, 0, 0, 8, 1}, {3, 0, 2, 0, 1},
            {0, 3, 0, 2, 1}, {0, 0, 0, 0, 0}, {0, 0, 0, 0, 101}, {8, 8, 8, 8, 1}, {0, 0, 0, 0, -5},
            {Integer.MIN_VALUE, 0, Integer.MAX_VALUE, 0, 1}};
        for (int[] s : wrong) {
            Check.due("storm from " + s[0] + ", " + s[1], x.storm(s[0], s[1], s[2], s[3], s[4]), -1);
        }
        Check.due("STORMS", x.look(2), 0);
        Check.due("undo", x.look(4), 0);
        Check.due("storm of one CELL", x.storm(7, 7, 7, 7, 100), 0);
    }

    private static void lostIsCutAndBounded() {
        HailClub x = Check.book("member a;field a 0 0 1 3 33;field a 0 0 2 1 100;crop 1 50;crop 2 199;");
        x.storm(0, 0, 0, 0, 41);
        Check.due("LOST cut", x.field(0, 7), 20);
        Check.due("LOST of the softer", x.field(1, 7), 81);
        Check.due("CLAIM cut", x.field(0, 9), 19);
        x.storm(0, 0, 0, 0, 41);
        Check.due("LOST cut of each", x.field(0, 7), 40);
        Check.due("LOST at most", x.field(1, 7), 100);
        Check.due("PAID", x.field(1, 8), 100);
        Check.due("CLAIM", x.field(1, 9), 100);
        Check.due("field(0, 10)", x.field(0, 10), -1);
        Check.due("field(0, -1)", x.field(0, -1), -1);
        Check.due("field(2, 0)", x.field(2, 0), -1);
        Check.due("field(-1, 0)", x.field(-1, 0), -1);
        Check.due("field(24, 0)", x.field(24, 0), -1);
    }

    private static void aSurplusIsDivided() {
        HailClub x = Check.book(THREE + "rate 10;goal 0;pay 1;");
        x.storm(0, 0, 0, 0, 100);
        now(x, 10, 0, 10, 30, 0, 20, 0, 0, 0, 0, 0);
        mine(x, 0, 10, 0, 7, 0, 0, 7);
        mine(x, 1, 0, 0, 7, 0, 0, -3);
        mine(x, 2, 0, 0, 6, 0, 0, -4);
        x.storm(1, 0, 2, 0, 100);
        now(x, 30, 0, 30, 30, 0, 0, 0, 0, 0, 0, 0);
    }

    private static void aSurplusBuildsTheReserve() {
        HailClub x = Check.book(THREE + "rate 10;goal 1;pay 1;");
        x.storm(0, 0, 0, 0, 100);
        now(x, 10, 0, 10, 30, 20, 0, 0, 0, 0, 0, 20);
        x = Check.book(THREE + "rate 10;goal 1;reserve 25;pay 1;");
        x.storm(0, 0, 0, 0, 100);
        now(x, 10, 0, 10, 30, 5, 15, 0, 0, 0, 0, 30);
        mine(x, 2, 0, 0, 5, 0, 0, -5);
        x = Check.book(THREE + "rate 10;goal 1;reserve 31;pay 1;");
        x.storm(0, 0, 0, 0, 100);
        now(x, 10, 0, 10, 30, 0, 20, 0, 0, 0, 0, 31);
    }

    private static void greatestRestsComeFirst() {
        HailClub x = Check.book("member a;member b;member c;field a 0 0 0 10 100;field b 0 0 0 20 100;rate 10;goal 0;"
            + "pay 2;");
        Check.join(x, "d 1 1 0 10 100");
        x.storm(1, 1, 1, 1, 100);
        now(x, 20, 0, 20, 40, 0, 20, 0, 0, 0, 0, 0);
        mine(x, 0, 0, 0, 5, 0, 0, -5);
        mine(x, 1, 0, 0, 10, 0, 0, -10);
        mine(x, 2, 0, 0, 0, 0, 0, 0);
        mine(x, 3, 20, 0, 5, 0, 0, 15);
        // ADVANCES 10 and 20; CLAIMS of a 20: of the 10 that are left 3 1/3 and 6 2/3.
        x = Check.book("member a;member b;field a 0 0 0 10 100;field b 1 0 0 20 100;rate 10;goal 0;pay 2;");
        x.storm(0, 0, 0, 0, 100);
        now(x, 20, 0, 20, 30, 0, 10, 0, 0, 0, 0, 0);
        mine(x, 0, 20, 0, 3, 0, 0, 13);
        mine(x, 1, 0, 0, 7, 0, 0, -13);
    }

    private static void whatIsCoveredAgain() {
        String[] rules = {"retain 23;cover 100 100;", "retain 22;cover 100 100;", "retain 10;cover 8 50;",
            "retain 10;cover 8 33;", "retain 10;cover 8 0;", "retain 0;cover 9999999 100;", "retain 0;cover 0 100;",
            "retain 0;cover 1000 99;"};
        long[] again = {0, 1, 4, 2, 0, 23, 0, 22};
        for (int i = 0; i < rules.length; i++) {
            HailClub x = Check.book(UNEVEN + "pay 2;" + rules[i]);
            x.storm(0, 0, 7, 7, 100);
            Check.due("LOSSES with " + rules[i], x.now(0), 23);
            Check.due("AGAIN with " + rules[i], x.now(1), again[i]);
            Check.due("NET with " + rules[i], x.now(2), 23 - again[i]);
        }
    }

    private static void theReserveBearsItsHalf() {
        HailClub x = Check.book(UNEVEN + "pay 2;reserve 5;cap 99;");
        x.storm(0, 0, 7, 7, 100);
        now(x, 23, 0, 23, 11, 0, 0, 2, 10, 0, 0, 3);
        x = Check.book(UNEVEN + "pay 2;reserve 25;");
        x.storm(0, 0, 7, 7, 100);
        now(x, 23, 0, 23, 11, 0, 0, 12, 0, 0, 0, 13);
        Check.due("close", x.close(), 23);
        Check.due("RESERVE", x.club(1), 13);
    }

    private static void callsAreHeldByRounds() {
        // SHORT 10: of the first DIVIDED a would be called for 2, more than its 1; then b for 9.
        HailClub x = Check.book(UNEVEN + "pay 1+crop;");
        x.storm(0, 0, 7, 7, 100);
        now(x, 21, 0, 21, 11, 0, 0, 0, 10, 0, 0, 0);
        mine(x, 0, 1, 0, 0, 1, 0, -1);
        mine(x, 1, 20, 0, 0, 9, 0, 1);
        // With CAP 2 nobody is held, and the coin that is left is a's.
        x.set(5, 2);
        mine(x, 0, 1, 0, 0, 2, 0, -2);
        mine(x, 1, 20, 0, 0, 8, 0, 2);
        // ADVANCES 1, 1, 3 and SHORT 3: by POINTS 3/5, 3/5, 9/5; a is called for all it may be, but no more.
        x = Check.book("member a;member b;member c;field a 0 0 0 1 100;field b 0 0 0 1 100;field c 0 0 0 1 300;"
            + "rate 10;cap 1;pay 2;retain 8;cover 9 100;");
        x.storm(0, 0, 0, 0, 100);
        now(x, 10, 2, 8, 5, 0, 0, 0, 3, 0, 0, 0);
        mine(x, 0, 2, 0, 0, 1, 0, 0);
        mine(x, 1, 2, 0, 0, 0, 0, 1);
        mine(x, 2, 6, 0, 0, 2, 0, 1);
        // SHORT 20: a is held at 1; of the 19 that are left the first of two alike gets the odd one.
        x = Check.book(UNEVEN + "member c;field c 0 0 0 10 100;pay 2;retain 41;cover 9 100;");
        x.storm(0, 0, 7, 7, 100);
        now(x, 43, 2, 41, 21, 0, 0, 0, 20, 0, 0, 0);
        mine(x, 0, 3, 0, 0, 1, 0, 1);
        mine(x, 1, 20, 0, 0, 10, 0, 0);
        mine(x, 2, 20, 0, 0, 9, 0, 1);
    }

    private static void oneCoinIsDivided() {
        HailClub x = Check.book("member a;member b;field b 0 0 0 1 100;rate 10;goal 0;");
        now(x, 0, 0, 0, 1, 0, 1, 0, 0, 0, 0, 0);
        mine(x, 1, 0, 0, 1, 0, 0, 0);
        x = Check.book("member a;member b;field b 0 0 0 1 1;rate 0;");
        x.storm(0, 0, 0, 0, 100);
        now(x, 1, 0, 1, 0, 0, 0, 0, 0, 1, 0, 0);
        mine(x, 0, 0, 0, 0, 0, 0, 0);
        mine(x, 1, 1, 1, 0, 0, 0, 0);
    }

    private static void whatNoCallBringsIsCut() {
        // SHORT 12: a is held at 1, then b at 10; the one that is left is cut from b, the greatest rest.
        HailClub x = Check.book(UNEVEN + "pay 2;");
        x.storm(0, 0, 7, 7, 100);
        now(x, 23, 0, 23, 11, 0, 0, 0, 11, 1, 0, 0);
        mine(x, 0, 3, 0, 0, 1, 0, 1);
        mine(x, 1, 20, 1, 0, 10, 0, -1);
        x.set(5, 0);
        now(x, 23, 0, 23, 11, 0, 0, 0, 0, 12, 0, 0);
        mine(x, 0, 3, 2, 0, 0, 0, 0);
        mine(x, 1, 20, 10, 0, 0, 0, 0);
    }

    private static void callsWithoutPoints() {
        HailClub x = Check.book("member z;" + UNEVEN + "rate 0;pay 2;");
        x.storm(0, 0, 7, 7, 100);
        now(x, 23, 0, 23, 0, 0, 0, 0, 0, 23, 0, 0);
        mine(x, 0, 0, 0, 0, 0, 0, 0);
        mine(x, 1, 3, 3, 0, 0, 0, 0);
        mine(x, 2, 20, 20, 0, 0, 0, 0);
    }

    private static void dues() {
        HailClub x = Check.book(THREE + "rate 0;goal 10;");
        x.leave(1);
        x.leave(0);
        now(x, 0, 0, 0, 0, 0, 0, 0, 0, 0, 128, 128);
        mine(x, 0, 0, 0, 0, 0, 80, -80);
        mine(x, 1, 0, 0, 0, 0, 48, -48);
        mine(x, 2, 0, 0, 0, 0, 0, 0);
        x.leave(2);
        // The goal of c alone is 100, the RESERVE has 128 by then.
        now(x, 0, 0, 0, 0, 0, 0, 0, 0, 0, 128, 128);
        x.close();
        Check.due("RESERVE", x.club(1), 128);
        Check.due("nobody", x.look(0), 0);
        // The part is cut, and cut again: of 33 the third is 11, four fifths of it 8.
        x = Check.book("member a;member b;member c;field a 0 0 0 1 110;field b 0 0 0 1 110;field c 0 0 0 1 115;rate 0;");
        x.leave(0);
        mine(x, 0, 0, 0, 0, 0, 8, -8);
        // What goes to the RESERVE of SURPLUS is there when DUES are reckoned.
        x = Check.book(THREE + "rate 10;goal 10;");
        x.leave(2);
        now(x, 0, 0, 0, 30, 30, 0, 0, 0, 0, 72, 102);
        mine(x, 2, 0, 0, 0, 0, 72, -82);
        // One without POINTS owes nothing.
        x = Check.book("member z;member y;rate 0;");
        x.leave(0);
        now(x, 0, 0, 0, 0, 0, 0, 0, 0, 0, 0, 0);
    }

    private static void duesByYears() {
        long[] owed = {80, 60, 40, 20, 0, 0};
        HailClub x = Check.book(THREE + "rate 0;goal 10;");
        for (int year = 0; year < owed.length; year++) {
            x.leave(0);
            Check.due("DUES in year " + year, x.mine(0, 4), owed[year]);
            x.undo();
            x.close();
        }
    }

    private static void closeIsTheNextYear() {
        HailClub x = Check.book(THREE + "rate 10;goal 1;reserve 25;pay 1;");
        x.storm(0, 0, 0, 0, 100);
        x.leave(1);
        Check.due("close", x.close(), 10);
        Check.due("YEAR", x.look(3), 1);
        Check.due("STORMS", x.look(2), 0);
        Check.due("LOST", x.field(0, 7), 0);
        Check.due("YEARS of a", x.member(0, 2), 1);
        Check.due("YEARS of b", x.member(1, 2), 0);
        Check.due("RESERVE", x.club(1), 30);
        Check.due("close of a calm year", x.close(), 0);
        Check.due("YEAR then", x.look(3), 2);
        Check.due("YEARS of a then", x.member(0, 2), 2);
        Check.due("YEARS of b then", x.member(1, 2), 0);
        HailClub none = new HailClub();
        Check.due("close with nobody", none.close(), -1);
        Check.due("YEAR with nobody", none.look(3), 0);
    }

    private static void thenTellsTheLatestEnd() {
        HailClub x = Check.book(UNEVEN + "pay 2;");
        x.storm(0, 0, 7, 7, 100);
        Check.due("then before", x.then(0, 5), Long.MIN_VALUE);
        x.leave(1);
        x.close();
        long[] a = {3, 0, 0, 1, 0, 1};
        long[] b = {20, 1, 0, 10, 0, -1};
        for (int what = 0; what < 6; what++) {
            Check.due("then(0, " + what + ")", x.then(0, what), a[what]);
            Check.due("then(1, " + what + ")", x.then(1, what), b[what]);
        }
        Check.due("mine(1, 0)", x.mine(1, 0), Long.MIN_VALUE);
        Check.due("then(0, 6)", x.then(0, 6), Long.MIN_VALUE);
        Check.due("then(0, -1)", x.then(0, -1), Long.MIN_VALUE);
        Check.due("then(2, 0)", x.then(2, 0), Long.MIN_VALUE);
        Check.due("then(-1, 0)", x.then(-1, 0), Long.MIN_VALUE);
        Check.due("then(12, 0)", x.then(12, 0), Long.MIN_VALUE);
        Check.join(x, "c");
        Check.due("then(2, 0) of one that came", x.then(2, 0), Long.MIN_VALUE);
        x.storm(0, 0, 7, 7, 100);
        x.set(0, 999);
        Check.due("then stays", x.then(0, 5), 1);
        x.close();
        Check.due("then(0, 0)", x.then(0, 0), 3);
        Check.due("then(1, 0) of one GONE", x.then(1, 0), Long.MIN_VALUE);
        Check.due("then(2, 0)", x.then(2, 0), 0);
    }

    private static void nowAndMineAreBounded() {
        HailClub x = Check.book(THREE);
        Check.due("now(11)", x.now(11), -1);
        Check.due("now(-1)", x.now(-1), -1);
        Check.due("mine(0, 6)", x.mine(0, 6), Long.MIN_VALUE);
        Check.due("mine(0, -1)", x.mine(0, -1), Long.MIN_VALUE);
        Check.due("mine(3, 0)", x.mine(3, 0), Long.MIN_VALUE);
        Check.due("mine(-1, 0)", x.mine(-1, 0), Long.MIN_VALUE);
        HailClub none = new HailClub();
        for (int what = 0; what <= 10; what++) {
            Check.due("now(" + what + ") with nobody", none.now(what), -1);
        }
    }

    private static void clubAndSet() {
        HailClub x = Check.book(THREE + "rate 3;reserve 4;retain 5;cover 6 7;cap 8;goal 9;hazard 1 0 1 0 2;");
        long[] want = {3, 4, 5, 6, 7, 8, 9, 270, 3000, 4000};
        for (int what = 0; what < want.length; what++) {
            Check.due("club(" + what + ")", x.club(what), want[what]);
        }
        Check.due("club(10)", x.club(10), -1);
        Check.due("club(-1)", x.club(-1), -1);
        int[][] wrong = {{0, 3}, {0, -1}, {0, 1000}, {5, 8}, {5, -1}, {5, 100}, {6, 9}, {6, -1}, {6, 101}, {1, 1}, {2, 1},
            {3, 1}, {4, 1}, {7, 1}, {-1, 1}, {8, 1}, {Integer.MAX_VALUE, 0}, {Integer.MIN_VALUE, 0}};
        for (int[] pair : wrong) {
            Check.due("set(" + pair[0] + ", " + pair[1] + ")", x.set(pair[0], pair[1]), false);
        }
        int[][] fine = {{0, 999}, {0, 0}, {5, 99}, {5, 0}, {6, 100}, {6, 0}};
        for (int[] pair : fine) {
            Check.due("set(" + pair[0] + ", " + pair[1] + ")", x.set(pair[0], pair[1]), true);
            Check.due("club(" + pair[0] + ") then", x.club(pair[0]), pair[1]);
        }
        Check.due("the rest stays", x.club(1), 4);
    }

    private static void lookAndHazard() {
        HailClub x = Check.book(THREE + "hazard 1 2 3 4 9;");
        int[] want = {3, 3, 0, 0, 0, 0, 3, 3};
        for (int what = 0; what < want.length; what++) {
            Check.due("look(" + what + ")", x.look(what), want[what]);
        }
        Check.due("look(8)", x.look(8), -1);
        Check.due("look(-1)", x.look(-1), -1);
        Check.due("hazard(1, 2)", x.hazard(1, 2), 9);
        Check.due("hazard(3, 4)", x.hazard(3, 4), 9);
        Check.due("hazard(2, 1)", x.hazard(2, 1), 1);
        Check.due("hazard(4, 3)", x.hazard(4, 3), 1);
        Check.due("hazard(8, 0)", x.hazard(8, 0), -1);
        Check.due("hazard(0, 8)", x.hazard(0, 8), -1);
        Check.due("hazard(-1, 0)", x.hazard(-1, 0), -1);
        Check.due("hazard(0, -1)", x.hazard(0, -1), -1);
    }
}
