/** Promises 20 to 27: the worst STORM, RATES and RESERVES that would do, and what else is asked. */
final class SentencesOfAsking {
    /** ADVANCES 1 and 10; CLAIMS 3 and 20 with "pay 2" in a STORM over all. */
    private static final String UNEVEN = "member a;member b;field a 0 0 0 1 199;field b 1 0 0 10 100;rate 10;cap 1;goal 0;";

    private SentencesOfAsking() {
    }

    private static HailClub hit(String text) {
        HailClub x = Check.book(text);
        x.storm(0, 0, 7, 7, 100);
        return x;
    }

    private static void worst(HailClub x, int wide, int high, int strength, long... want) {
        for (int what = 0; what < want.length; what++) {
            Check.due("worst(" + wide + ", " + high + ", " + strength + ", " + what + ")",
                x.worst(wide, high, strength, what), want[what]);
        }
    }

    @Says(in = "Promise 20", words = "The place of the STORM so wide and high")
    static void soWideAndHigh() {
        HailClub x = Check.book("member a;field a 2 2 0 1 100;field a 4 2 0 1 10;field a 2 5 0 1 20;field a 4 5 0 1 1;");
        worst(x, 1, 1, 100, 2, 2, 100);
        worst(x, 2, 3, 100, 1, 0, 100);
        worst(x, 3, 1, 100, 2, 2, 110);
        worst(x, 2, 4, 100, 1, 2, 120);
        worst(x, 1, 4, 100, 2, 2, 120);
        worst(x, 3, 4, 100, 2, 2, 131);
        worst(x, 4, 4, 100, 1, 2, 131);
        worst(x, 3, 5, 100, 2, 1, 131);
        // All of it is on THE MAP.
        x = Check.book("member a;field a 7 7 0 1 100;");
        worst(x, 1, 1, 100, 7, 7, 100);
        worst(x, 3, 2, 100, 5, 6, 100);
        worst(x, 8, 1, 100, 0, 7, 100);
        worst(x, 1, 8, 100, 7, 0, 100);
    }

    @Says(in = "Promise 20", words = "(1 .. 8 each)")
    static void oneToEight() {
        HailClub x = Check.book("member a;field a 0 0 0 1 100;");
        for (int size = 1; size <= 8; size++) {
            worst(x, size, 1, 100, 0, 0, 100);
            worst(x, 1, size, 100, 0, 0, 100);
        }
        worst(x, 8, 8, 100, 0, 0, 100);
        int[] wrong = {0, 9, -1, Integer.MIN_VALUE, Integer.MAX_VALUE};
        for (int size : wrong) {
            worst(x, size, 1, 100, -1, -1, -1);
            worst(x, 1, size, 100, -1, -1, -1);
        }
    }

    @Says(in = "Promise 20", words = "and strong by which LOSSES of this YEAR would be greatest")
    static void soStrong() {
        HailClub x = Check.book("member a;field a 1 1 0 1 100;field a 5 5 1 1 150;crop 1 60;");
        // Of 100 the STRENGTH, of 150 six tenths of it.
        worst(x, 1, 1, 100, 1, 1, 100);
        worst(x, 1, 1, 50, 1, 1, 50);
        worst(x, 1, 1, 8, 1, 1, 8);
        worst(x, 1, 1, 7, 0, 0, 0);
        x = Check.book("member a;field a 1 1 0 1 100;field a 5 5 1 1 150;crop 1 70;");
        worst(x, 1, 1, 100, 5, 5, 105);
        worst(x, 1, 1, 1, 0, 0, 0);
        // LOSSES, not LOST or AREAS: the law has its say.
        x = Check.book("member a;field a 1 1 0 99 1;field a 5 5 1 1 90;pay if(crop,100,50);");
        worst(x, 1, 1, 100, 5, 5, 90);
        // 100 at most of what is LOST.
        x = Check.book("member a;field a 1 1 0 1 100;field a 5 5 1 1 150;crop 0 200;");
        worst(x, 1, 1, 60, 1, 1, 100);
        worst(x, 1, 1, 70, 5, 5, 105);
    }

    @Says(in = "Promise 20", words = "with those that were")
    static void withThoseThatWere() {
        HailClub x = Check.book("member a;field a 1 1 0 1 100;field a 5 5 0 1 90;");
        x.storm(1, 1, 1, 1, 80);
        // 80 and 20 more of the one, or 80 and 45 of the other.
        worst(x, 1, 1, 50, 5, 5, 125);
        worst(x, 8, 8, 50, 0, 0, 145);
        // With seven there was and one more the slight one counts.
        x = Check.book("member a;field a 1 1 0 1 100;field a 5 5 0 1 110;");
        x.storm(1, 1, 1, 1, 7);
        worst(x, 1, 1, 1, 1, 1, 8);
        // One STORM more would bring less by this law.
        x = Check.book("member a;field a 0 0 0 1 100;field a 1 0 0 1 100;pay 100-loss;");
        x.storm(0, 0, 1, 0, 50);
        worst(x, 1, 1, 10, 2, 0, 100);
        worst(x, 8, 8, 10, 0, 0, 80);
        // Those of a YEAR before are none.
        x.close();
        worst(x, 1, 1, 50, 0, 0, 50);
    }

    @Says(in = "Promise 20", words = "what 0 its x, 1 its y (the lesser ones")
    static void lesserOnes() {
        HailClub x = Check.book("member a;field a 3 2 0 1 100;field a 6 6 0 1 100;");
        Check.due("x", x.worst(4, 5, 100, 0), 3);
        Check.due("y", x.worst(4, 5, 100, 1), 2);
        Check.due("x of one wide", x.worst(1, 8, 100, 0), 3);
        Check.due("y of one high", x.worst(8, 1, 100, 1), 2);
    }

    @Says(in = "Promise 20", words = "of several the first by y, then x)")
    static void firstOfSeveral() {
        HailClub x = Check.book("member a;field a 0 5 0 1 100;field a 5 0 0 1 100;field a 7 0 0 1 100;");
        worst(x, 1, 1, 100, 5, 0, 100);
        worst(x, 2, 2, 50, 4, 0, 50);
        worst(x, 1, 6, 100, 0, 0, 100);
        x = Check.book("member a;field a 6 1 0 1 100;field a 1 6 0 1 100;");
        worst(x, 1, 1, 100, 6, 1, 100);
        worst(x, 3, 3, 100, 4, 0, 100);
        // All alike.
        worst(Check.book("member a;"), 3, 3, 100, 0, 0, 0);
        worst(new HailClub(), 1, 1, 1, 0, 0, 0);
    }

    @Says(in = "Promise 20", words = "2 LOSSES then")
    static void lossesThen() {
        HailClub x = Check.book("member a;member b;field a 1 1 0 2 50;field b 5 5 1 10 33;crop 1 10;");
        x.storm(5, 5, 5, 5, 90);
        // b has 29 of LOST 9, and a would have 41.
        Check.due("worst", x.worst(2, 2, 41, 2), 29 + 41);
        x.storm(1, 1, 1, 1, 41);
        Check.due("LOSSES with it", x.now(0), 70);
        x.leave(1);
        Check.due("worst with one that LEAVES", x.worst(1, 1, 1, 2), 29 + 42);
        x.close();
        Check.due("worst with one GONE", x.worst(8, 8, 100, 2), 100);
        Check.due("worst beside one GONE", x.worst(1, 1, 100, 2), 100);
    }

    @Says(in = "Promise 20", words = "2 LOSSES then")
    static void lossesOfAllFieldsThen() {
        // FIELDS 0 to 11 at 0, 0, 12 to 22 at 2, 3, the last of them all at 3, 2.
        HailClub x = Check.book("member a;" + "field a 0 0 0 1 1;".repeat(12) + "field a 2 3 0 1 2;".repeat(11)
            + "field a 3 2 0 1 50;");
        worst(x, 1, 1, 100, 3, 2, 50);
        worst(x, 2, 2, 100, 2, 2, 72);
        worst(x, 3, 3, 100, 1, 1, 72);
        worst(x, 4, 4, 100, 0, 0, 84);
        x.storm(3, 2, 3, 2, 100);
        worst(x, 1, 1, 100, 2, 3, 72);
    }

    @Says(in = "Promise 20", words = "NONE: it can't be")
    static void worstThatCannotBe() {
        HailClub x = Check.book("member a;field a 1 1 0 1 100;");
        int[] strengths = {0, 101, -1, Integer.MIN_VALUE, Integer.MAX_VALUE};
        for (int strength : strengths) {
            worst(x, 1, 1, strength, -1, -1, -1);
        }
        worst(x, 0, 0, 1, -1, -1, -1);
        worst(x, 9, 9, 1, -1, -1, -1);
        worst(x, 8, 8, 1, 0, 0, 0);
    }

    @Says(in = "Promise 20", words = "16 are there")
    static void worstOfSixteen() {
        HailClub x = Check.book("member a;field a 1 1 0 1 100;");
        for (int i = 0; i < 15; i++) {
            x.storm(0, 0, 0, 0, 1);
        }
        worst(x, 1, 1, 100, 1, 1, 100);
        x.storm(0, 0, 0, 0, 1);
        worst(x, 1, 1, 100, -1, -1, -1);
        x.close();
        worst(x, 1, 1, 100, 1, 1, 100);
    }

    @Says(in = "Promise 20", words = "or another what")
    static void worstOfAnotherWhat() {
        HailClub x = Check.book("member a;field a 1 1 0 1 100;");
        int[] others = {-1, 3, Integer.MIN_VALUE, Integer.MAX_VALUE};
        for (int what : others) {
            Check.due("worst(1, 1, 1, " + what + ")", x.worst(1, 1, 1, what), -1);
        }
    }

    @Says(in = "Promise 21", words = "The least RATE (0 .. 999)")
    static void leastRate() {
        Check.due("rate() of a calm YEAR", Check.book(UNEVEN).rate(), 0);
        Check.due("rate() by the RESERVE alone", hit(UNEVEN + "pay 2;reserve 46;").rate(), 0);
        Check.due("rate() for one COIN", hit(UNEVEN + "pay 2;reserve 45;").rate(), 1);
        // 199 and 1000 by 999: 198 and 999, with 2 of the RESERVE 1199.
        Check.due("rate() of the most", hit(UNEVEN + "reserve 4;").rate(), 999);
        Check.due("rate() of more than the most", hit(UNEVEN + "reserve 3;").rate(), -1);
    }

    @Says(in = "Promise 21", words = "by which nothing would be CALLED or CUT at the END as it stands")
    static void rateByWhichNothingIsCalled() {
        // 20: ADVANCES 3 and 20. 19: 3 and 19.
        HailClub x = hit(UNEVEN + "pay 2;");
        Check.due("rate()", x.rate(), 20);
        Check.due("RATE is as it was", x.club(0), 10);
        x.set(0, 20);
        Check.due("CALLED by it", x.now(7), 0);
        Check.due("CUT by it", x.now(8), 0);
        x.set(0, 19);
        Check.due("CALLED by one less", x.now(7), 1);
        Check.due("rate() with another RATE", x.rate(), 20);
        // With nothing that could be CALLED it would be CUT.
        x.set(5, 0);
        Check.due("rate() with CAP 0", x.rate(), 20);
        // What the RESERVE bears, what is covered again, one STORM more.
        Check.due("rate() with a RESERVE", hit(UNEVEN + "pay 2;reserve 3;").rate(), 19);
        Check.due("rate() with a COVER", hit(UNEVEN + "pay 2;retain 22;cover 9 100;").rate(), 19);
        x = Check.book(UNEVEN + "pay loss/50;");
        x.storm(0, 0, 7, 7, 50);
        // CLAIMS 1 and 10: by 10 ADVANCES are 1 and 10.
        Check.due("rate() of the half", x.rate(), 10);
        x.storm(0, 0, 7, 7, 50);
        Check.due("rate() of all", x.rate(), 20);
        x.leave(0);
        Check.due("rate() with one that LEAVES", x.rate(), 20);
        // The half of the 50 that an END brought to the RESERVE.
        x = Check.book("member a;field a 0 0 0 1 100;rate 500;goal 100;");
        x.close();
        x.storm(0, 0, 0, 0, 100);
        Check.due("rate() in the next YEAR", x.rate(), 750);
        // ADVANCES of twelve, by POINTS.
        String twelve = SentencesOfTheMap.members(12);
        for (int i = 0; i < 12; i++) {
            twelve += "field m" + (char) ('a' + i) + " 0 0 0 1 100;";
        }
        Check.due("rate() of twelve", hit(twelve + "pay 1;").rate(), 10);
        Check.due("rate() of twelve by POINTS", hit(twelve + "pay 1;hazard 0 0 0 0 5;").rate(), 2);
    }

    @Says(in = "Promise 21", words = "NONE: with none")
    static void rateOfNone() {
        Check.due("rate() without a RESERVE", hit(UNEVEN).rate(), -1);
        Check.due("rate() of a COIN too many", hit("member a;field a 0 0 0 1 1;").rate(), -1);
        Check.due("rate() with a RESERVE for it", hit("member a;field a 0 0 0 1 1;reserve 2;").rate(), 0);
    }

    @Says(in = "Promise 21", words = "or nobody is there")
    static void rateOfNobody() {
        Check.due("rate() of a new object", new HailClub().rate(), -1);
        HailClub x = Check.book("member a;");
        Check.due("rate() of one without FIELDS", x.rate(), 0);
        x.leave(0);
        x.close();
        Check.due("rate() with all GONE", x.rate(), -1);
    }

    @Says(in = "Promise 22", words = "The least RESERVE (0 .. 99999999)")
    static void leastReserve() {
        Check.due("reserve() of a calm YEAR", Check.book(UNEVEN + "reserve 77;").reserve(), 0);
        Check.due("reserve() of the least LOSS", hit("member a;field a 0 0 0 1 1;").reserve(), 2);
        // 24 times 98901, twice.
        HailClub x = hit("member a;" + "field a 0 0 0 99 999;".repeat(24) + "rate 0;");
        Check.due("reserve() of the most LOSSES", x.reserve(), 4747248);
    }

    @Says(in = "Promise 22", words = "by which nothing would be CALLED or CUT at the END as it stands")
    static void reserveByWhichNothingIsCalled() {
        HailClub x = hit(UNEVEN + "pay 2;reserve 77;");
        Check.due("reserve()", x.reserve(), 24);
        Check.due("RESERVE is as it was", x.club(1), 77);
        x = hit(UNEVEN + "pay 2;reserve 24;");
        Check.due("CALLED by it", x.now(7), 0);
        Check.due("CUT by it", x.now(8), 0);
        x = hit(UNEVEN + "pay 2;reserve 23;");
        Check.due("CALLED by one less", x.now(7), 1);
        x.set(5, 0);
        Check.due("reserve() with CAP 0", x.reserve(), 24);
        x.set(0, 19);
        Check.due("reserve() with one COIN short", x.reserve(), 2);
        x.set(0, 20);
        Check.due("reserve() with ADVANCES enough", x.reserve(), 0);
        Check.due("reserve() with a COVER", hit(UNEVEN + "pay 2;retain 20;cover 9 100;").reserve(), 18);
        x.leave(0);
        x.set(0, 10);
        Check.due("reserve() with one that LEAVES", x.reserve(), 24);
    }

    @Says(in = "Promise 22", words = "NONE: with none, or nobody is there")
    static void reserveOfNobody() {
        // With anybody there is always one: LOSSES are 2373624 at most.
        Check.due("reserve() of a new object", new HailClub().reserve(), -1);
        HailClub x = Check.book("member a;");
        Check.due("reserve() of one without FIELDS", x.reserve(), 0);
        x.leave(0);
        x.close();
        Check.due("reserve() with all GONE", x.reserve(), -1);
    }

    @Says(in = "Promise 23", words = "How much BALANCE of a MEMBER (mine() 5) would be more")
    static void moreBalance() {
        HailClub x = hit(UNEVEN + "pay 2;");
        Check.each(x, 5, 1, -1);
        // b alone: CLAIM 20, ADVANCE 10, CALLED 10: 0. a alone: 3, 1, 1, and 1 is CUT: 0.
        Check.due("without(1, 0)", x.without(1, 0), 1);
        Check.due("without(0, 1)", x.without(0, 1), -1);
        // One whose going changes nothing.
        x = hit("member z;" + UNEVEN + "pay 2;");
        Check.due("without(1, 0)", x.without(1, 0), 0);
        Check.due("without(0, 1)", x.without(0, 1), 0);
    }

    @Says(in = "Promise 23", words = "if another one had LEFT ahead of this YEAR (it and its FIELDS not there)")
    static void leftAhead() {
        HailClub x = Check.book("member a;member b;field a 0 0 0 10 100;field b 0 0 0 30 100;rate 0;reserve 20;");
        x.leave(0);
        // GOAL 400 less 20 by 1000 of 4000 is 95, four fifths 76; alone 100 less 20 is 80, four fifths 64.
        Check.due("DUES of a", x.mine(0, 4), 76);
        Check.due("without(0, 1)", x.without(0, 1), 76 - 64);
        Check.due("without(1, 0)", x.without(1, 0), 0);
        // Others that LEAVE still do.
        x = Check.book("member a;member b;member c;field a 0 0 0 10 100;field b 0 0 0 10 100;field c 0 0 0 10 100;rate 0;"
            + "goal 10;");
        x.leave(0);
        x.leave(2);
        // a 80; c: 200 less 80 is 120, the half 60: 48. Without b a owes of 200 the half, 80; c of 100 less 80 all: 16.
        Check.each(x, 4, 80, 0, 48);
        Check.due("without(2, 1)", x.without(2, 1), 48 - 16);
        // Without a, c owes of 200 the half: 80.
        Check.due("without(2, 0)", x.without(2, 0), 48 - 80);
        // All is as it was.
        Check.each(x, 4, 80, 0, 48);
        Check.due("MEMBERS", x.look(0), 3);
    }

    @Says(in = "Promise 23", words = "Long.MIN_VALUE: no two unlike MEMBERS that are there")
    static void noTwoUnlike() {
        HailClub x = Check.book("member a;member b;member c;");
        x.leave(2);
        Check.due("without(0, 2) that LEAVES", x.without(0, 2), 0);
        x.close();
        int[] none = {-1, 2, 3, 11, 12, Integer.MIN_VALUE, Integer.MAX_VALUE};
        for (int n : none) {
            Check.due("without(0, " + n + ")", x.without(0, n), Long.MIN_VALUE);
            Check.due("without(" + n + ", 0)", x.without(n, 0), Long.MIN_VALUE);
            Check.due("without(" + n + ", " + n + ")", x.without(n, n), Long.MIN_VALUE);
        }
        Check.due("without(0, 0)", x.without(0, 0), Long.MIN_VALUE);
        Check.due("without(1, 1)", x.without(1, 1), Long.MIN_VALUE);
        Check.due("without(0, 1)", x.without(0, 1), 0);
    }

    @Says(in = "Promise 24", words = "MEMBERS (bits) that have a FIELD in a CELL")
    static void nearInACell() {
        StringBuilder text = new StringBuilder(SentencesOfTheMap.members(12));
        for (int i = 0; i < 12; i++) {
            text.append("field m").append((char) ('a' + i)).append(i % 2 == 0 ? " 0 0" : " 4 4").append(" 0 1 1;");
        }
        HailClub x = Check.book(text.toString());
        Check.due("near(0, 0)", x.near(0, 0), 0x555);
        Check.due("near(4, 4)", x.near(4, 4), 0xaaa);
        Check.due("near(7, 7)", x.near(7, 7), 0);
        x.leave(11);
        Check.due("near with one that LEAVES", x.near(4, 4), 0xaaa);
        x.close();
        Check.due("near with one GONE", x.near(4, 4), 0x2aa);
        Check.due("near in a new object", new HailClub().near(0, 0), 0);
        // The last of all FIELDS; one that came and was undone.
        x = Check.book("member a;member b;" + "field a 0 0 0 1 1;".repeat(22) + "field b 4 4 0 1 1;");
        Check.due("near the last FIELD", x.near(4, 4), 2);
        Check.join(x, "c 4 4 0 1 1");
        Check.due("near one that JOINED", x.near(4, 4), 6);
        x.undo();
        Check.due("near one that was undone", x.near(4, 4), 2);
    }

    @Says(in = "Promise 24", words = "or in one beside it (x or y one other)")
    static void nearBeside() {
        int[][] fields = {{3, 4}, {0, 0}, {7, 7}, {0, 7}, {7, 0}};
        for (int[] field : fields) {
            HailClub x = Check.book("member z;member a;field a " + field[0] + " " + field[1] + " 0 1 1;");
            for (int cell = 0; cell < 64; cell++) {
                int dx = Math.abs(cell % 8 - field[0]);
                int dy = Math.abs(cell / 8 - field[1]);
                Check.due("near(" + cell % 8 + ", " + cell / 8 + ")", x.near(cell % 8, cell / 8), dx + dy <= 1 ? 2 : 0);
            }
        }
    }

    @Says(in = "Promise 24", words = "NONE: there is no such CELL")
    static void nearNoCell() {
        HailClub x = Check.book("member a;field a 0 0 0 1 1;field a 7 7 0 1 1;");
        int[] none = {-1, 8, Integer.MIN_VALUE, Integer.MAX_VALUE};
        for (int n : none) {
            Check.due("near(" + n + ", 0)", x.near(n, 0), -1);
            Check.due("near(7, " + n + ")", x.near(7, n), -1);
            Check.due("near(" + n + ", " + n + ")", x.near(n, n), -1);
        }
    }

    /** BALANCES -3, 7, -4, 0. */
    private static final String RANKED = "member a;member b;member c;member d;field a 0 0 0 10 100;field b 1 0 0 10 100;"
        + "field c 2 0 0 10 100;goal 0;pay 1;";

    private static void ranks(HailClub x, int... want) {
        for (int i = 0; i < want.length; i++) {
            Check.due("rank(" + i + ")", x.rank(i), want[i]);
        }
    }

    @Says(in = "Promise 25", words = "The MEMBER at RANK i (from 0 on) by BALANCE as it would be")
    static void rankByBalance() {
        HailClub x = Check.book(RANKED);
        x.storm(1, 0, 1, 0, 100);
        Check.each(x, 5, -3, 7, -4, 0);
        ranks(x, 1, 3, 0, 2, -1);
        x.storm(2, 0, 2, 0, 100);
        // ADVANCES of 10 each, CLAIMS 0, 10, 10, GIVEN BACK 4, 3, 3.
        Check.each(x, 5, -6, 3, 3, 0);
        ranks(x, 1, 2, 3, 0, -1);
    }

    @Says(in = "Promise 25", words = "the greatest first")
    static void greatestFirst() {
        HailClub x = Check.book(RANKED);
        x.storm(2, 0, 2, 0, 100);
        Check.each(x, 5, -3, -3, 6, 0);
        ranks(x, 2, 3, 0, 1);
    }

    @Says(in = "Promise 25", words = "of several the first")
    static void rankOfSeveral() {
        HailClub x = Check.book(RANKED);
        Check.each(x, 5, 0, 0, 0, 0);
        ranks(x, 0, 1, 2, 3);
        x = Check.book(SentencesOfTheMap.members(12));
        for (int i = 0; i < 12; i++) {
            Check.due("rank(" + i + ")", x.rank(i), i);
        }
        Check.due("rank(12)", x.rank(12), -1);
    }

    @Says(in = "Promise 25", words = "NONE: there is none such")
    static void rankOfNoneSuch() {
        HailClub x = Check.book(RANKED);
        int[] none = {-1, 4, 11, 12, Integer.MIN_VALUE, Integer.MAX_VALUE};
        for (int i : none) {
            Check.due("rank(" + i + ")", x.rank(i), -1);
        }
        x.leave(1);
        ranks(x, 0, 1, 2, 3, -1);
        x.close();
        ranks(x, 0, 2, 3, -1, -1);
        Check.due("rank(0) of nobody", new HailClub().rank(0), -1);
    }

    @Says(in = "Promise 26", words = "How many COINS of CLAIMS a STORM alone would bring")
    static void aloneBrings() {
        HailClub x = Check.book("member a;member b;field a 0 0 0 1 100;field b 1 0 0 1 199;field a 2 0 0 1 100;crop 0 50;");
        x.storm(0, 0, 1, 0, 31);
        x.storm(1, 0, 7, 7, 90);
        x.storm(3, 3, 4, 4, 100);
        x.storm(0, 0, 7, 7, 14);
        // LOST 15: 15 and 29. LOST 45: 89 and 45. Then none, and LOST 7: nothing.
        long[] want = {44, 134, 0, 0};
        for (int storm = 0; storm < want.length; storm++) {
            Check.due("alone(" + storm + ", 0)", x.alone(storm, 0), want[storm]);
        }
        // 100 at most.
        x = Check.book("member a;field a 0 0 0 1 100;crop 0 200;");
        x.storm(0, 0, 0, 0, 90);
        Check.due("alone of SOFT 200", x.alone(0, 0), 100);
        // Those that are there.
        x = Check.book("member a;member b;field a 0 0 0 1 100;field b 0 0 0 1 10;");
        x.leave(0);
        x.close();
        x.storm(0, 0, 0, 0, 100);
        Check.due("alone with one GONE", x.alone(0, 0), 10);
    }

    @Says(in = "Promise 26", words = "to FIELDS of a CROP")
    static void aloneByCrop() {
        HailClub x = hit("member a;field a 0 0 0 1 100;field a 0 0 1 1 20;field a 0 0 3 1 3;field a 0 0 1 1 30;");
        long[] want = {100, 50, 0, 3};
        for (int crop = 0; crop < 4; crop++) {
            Check.due("alone(0, " + crop + ")", x.alone(0, crop), want[crop]);
        }
    }

    @Says(in = "Promise 26", words = "(all else calm)")
    static void allElseCalm() {
        HailClub x = Check.book("member a;field a 0 0 0 1 100;field a 1 0 0 1 100;");
        x.storm(0, 0, 1, 0, 7);
        x.storm(0, 0, 0, 0, 60);
        Check.due("LOSSES", x.now(0), 67);
        Check.due("alone of the first", x.alone(0, 0), 0);
        Check.due("alone of the second", x.alone(1, 0), 60);
    }

    @Says(in = "Promise 26", words = "as the law stands")
    static void asTheLawStands() {
        HailClub x = Check.book("member a;field a 0 0 2 1 100;hazard 0 0 0 0 5;pay loss/2+hazard+years*10+crop;");
        x.close();
        x.storm(0, 0, 0, 0, 90);
        Check.due("alone", x.alone(0, 2), 45 + 5 + 10 + 2);
        x.storm(0, 0, 0, 0, 5);
        Check.due("alone, LOST at most", x.alone(1, 2), 5);
    }

    @Says(in = "Promise 26", words = "NONE: no such STORM")
    static void aloneOfNoStorm() {
        HailClub x = Check.book("member a;field a 0 0 0 1 100;");
        Check.due("alone(0, 0) in a calm YEAR", x.alone(0, 0), -1);
        x.storm(0, 0, 0, 0, 50);
        x.storm(0, 0, 0, 0, 50);
        int[] none = {-1, 2, 15, 16, Integer.MIN_VALUE, Integer.MAX_VALUE};
        for (int storm : none) {
            Check.due("alone(" + storm + ", 0)", x.alone(storm, 0), -1);
        }
        x.undo();
        Check.due("alone of one undone", x.alone(1, 0), -1);
        x.close();
        Check.due("alone in the next YEAR", x.alone(0, 0), -1);
        for (int i = 0; i < 16; i++) {
            x.storm(0, 0, 0, 0, 10 + i);
        }
        Check.due("alone(15, 0)", x.alone(15, 0), 25);
        Check.due("alone(16, 0)", x.alone(16, 0), -1);
    }

    @Says(in = "Promise 26", words = ", CROP.")
    static void aloneOfNoCrop() {
        HailClub x = hit("member a;field a 0 0 0 1 100;");
        int[] none = {-1, 4, Integer.MIN_VALUE, Integer.MAX_VALUE};
        for (int crop : none) {
            Check.due("alone(0, " + crop + ")", x.alone(0, crop), -1);
        }
        Check.due("alone(0, 3)", x.alone(0, 3), 0);
    }

    /** Two MEMBERS of three and three FIELDS of four there in the second YEAR. */
    private static HailClub looked() {
        HailClub x = Check.book("member a;member b;field a 0 0 0 1 1;field b 0 0 0 1 1;field b 0 0 0 1 1;");
        x.leave(0);
        x.close();
        Check.join(x, "c 0 0 0 1 1");
        x.storm(0, 0, 0, 0, 1);
        Check.put(x, "abcde");
        return x;
    }

    @Says(in = "Promise 27", words = "0 MEMBERS that are there")
    static void lookMembers() {
        Check.due("look(0)", looked().look(0), 2);
    }

    @Says(in = "Promise 27", words = "1 FIELDS that are there")
    static void lookFields() {
        Check.due("look(1)", looked().look(1), 3);
    }

    @Says(in = "Promise 27", words = "2 STORMS")
    static void lookStorms() {
        Check.due("look(2)", looked().look(2), 1);
    }

    @Says(in = "Promise 27", words = "3 YEAR")
    static void lookYear() {
        Check.due("look(3)", looked().look(3), 1);
    }

    @Says(in = "Promise 27", words = "4 what can be undone")
    static void lookUndone() {
        HailClub x = looked();
        Check.due("look(4)", x.look(4), 4);
        x.undo();
        Check.due("look(4) then", x.look(4), 3);
        for (int i = 0; i < 20; i++) {
            x.set(0, 100 + i);
        }
        Check.due("look(4) at most", x.look(4), 8);
    }

    @Says(in = "Promise 27", words = "5 bytes of THE TAPE")
    static void lookBytes() {
        HailClub x = looked();
        Check.due("look(5)", x.look(5), 5);
        x.feed(0, 0, 0, 0, 0);
        Check.due("look(5) then", x.look(5), 25);
    }

    @Says(in = "Promise 27", words = "6 MEMBERS in all")
    static void lookAllMembers() {
        Check.due("look(6)", looked().look(6), 3);
    }

    @Says(in = "Promise 27", words = "7 FIELDS in all")
    static void lookAllFields() {
        Check.due("look(7)", looked().look(7), 4);
    }

    @Says(in = "Promise 27", words = "NONE for another what")
    static void lookOfAnotherWhat() {
        HailClub x = looked();
        int[] others = {-1, 8, 9, Integer.MIN_VALUE, Integer.MAX_VALUE};
        for (int what : others) {
            Check.due("look(" + what + ")", x.look(what), -1);
        }
    }
}
