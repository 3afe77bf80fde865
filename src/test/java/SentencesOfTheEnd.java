/** Terms 3: The END of a YEAR, DUES, who buys in; and the constant. */
final class SentencesOfTheEnd {
    /** Each with SUMS and POINTS 1000. */
    private static final String THREE = "member a;member b;member c;field a 0 0 0 10 100;field b 1 0 0 10 100;"
        + "field c 2 0 0 10 100;";
    /** ADVANCES 1 and 10. */
    private static final String UNEVEN = "member a;member b;field a 0 0 0 1 199;field b 1 0 0 10 100;rate 10;goal 0;";
    /** ADVANCES 1, 3 and 10, each called for no more than that; c alone will have a CLAIM, of 30. */
    private static final String STEPS = "member a;member b;member c;field a 0 0 0 1 199;field b 1 0 0 1 399;"
        + "field c 2 0 0 10 100;rate 10;cap 1;goal 0;pay 3;retain 0;cover ";

    /** POINTS 350, 498, 580, 1093, 1099, 1099, 1298, 1398, 1399, 1499, 1799, 2000; NET 262 if all is LOST. */
    private static final String TWELVE = SentencesOfTheMap.members(12) + "field ma 0 0 0 1 350;field mb 0 0 0 1 498;"
        + "field mc 0 0 0 1 580;field md 0 0 0 1 999;field md 0 0 0 1 94;field me 0 0 0 7 157;field mf 0 0 0 7 157;"
        + "field mg 0 0 0 2 649;field mh 0 0 0 2 699;field mi 0 0 0 2 699;field mi 0 0 0 1 1;field mj 0 0 0 2 749;"
        + "field mj 0 0 0 1 1;field mk 0 0 0 7 257;field ml 0 0 0 10 200;retain 262;cover 9999999 100;cap 1;goal 0;";
    /** Each with SUMS and POINTS 100. */
    private static final String ALIKE = alike();

    private static String alike() {
        StringBuilder text = new StringBuilder(SentencesOfTheMap.members(12));
        for (int i = 0; i < 12; i++) {
            text.append("field m").append((char) ('a' + i)).append(" 0 0 0 1 100;");
        }
        return text.toString();
    }

    private SentencesOfTheEnd() {
    }

    /** The BOOK with a STORM that takes all of all FIELDS. */
    private static HailClub hit(String text) {
        HailClub x = Check.book(text);
        x.storm(0, 0, 7, 7, 100);
        return x;
    }

    /** The BOOK with a STORM that takes all of the CELLS with this x. */
    private static HailClub hit(String text, int at) {
        HailClub x = Check.book(text);
        x.storm(at, 0, at, 7, 100);
        return x;
    }

    @Says(in = "Terms 3", words = "The END of a YEAR. LOSSES: all CLAIMS.")
    static void losses() {
        HailClub x = hit("member a;member b;member c;field a 0 0 0 10 10;field a 1 0 0 1 30;field b 2 0 0 1 50;pay 10;");
        Check.due("LOSSES", x.now(0), 18);
        Check.each(x, 0, 13, 5, 0);
        x.leave(0);
        Check.due("LOSSES with one that LEAVES", x.now(0), 18);
        Check.due("close", x.close(), 18);
        x.storm(0, 0, 7, 7, 100);
        Check.due("LOSSES with one GONE", x.now(0), 5);
    }

    /** LOSSES are 23. */
    private static void again(String rules, long again) {
        HailClub x = hit(UNEVEN + "pay 2;" + rules);
        Check.now(x, 23, again, 23 - again);
    }

    @Says(in = "Terms 3", words = "AGAIN: what LOSSES are above RETAIN")
    static void aboveRetain() {
        again("retain 0;cover 9999999 100;", 23);
        again("retain 1;cover 9999999 100;", 22);
        again("retain 22;cover 9999999 100;", 1);
        again("retain 23;cover 9999999 100;", 0);
    }

    @Says(in = "Terms 3", words = "(0 at least, COVER at most)")
    static void coverAtMost() {
        again("retain 24;cover 9999999 100;", 0);
        again("retain 9999999;cover 9999999 100;", 0);
        again("retain 0;cover 24 100;", 23);
        again("retain 0;cover 23 100;", 23);
        again("retain 0;cover 22 100;", 22);
        again("retain 0;cover 1 100;", 1);
        again("retain 0;cover 0 100;", 0);
        again("retain 20;cover 2 100;", 2);
    }

    @Says(in = "Terms 3", words = "times BY by 100 (cut)")
    static void timesBy() {
        again("retain 0;cover 50 100;", 23);
        again("retain 0;cover 50 99;", 22);
        again("retain 0;cover 50 50;", 11);
        again("retain 0;cover 50 5;", 1);
        again("retain 0;cover 50 4;", 0);
        again("retain 0;cover 50 0;", 0);
        // COVER is a bound of what is above RETAIN, not of what is covered.
        again("retain 0;cover 10 50;", 5);
    }

    @Says(in = "Terms 3", words = "NET: LOSSES less AGAIN.")
    static void net() {
        Check.now(hit(UNEVEN + "pay 2;retain 20;cover 2 100;"), 23, 2, 21);
        Check.now(hit(UNEVEN + "pay 2;"), 23, 0, 23);
        Check.now(hit(UNEVEN + "pay 2;retain 0;cover 99 100;"), 23, 23, 0);
        Check.now(Check.book(UNEVEN + "retain 0;cover 99 100;"), 0, 0, 0);
    }

    @Says(in = "Terms 3", words = "ADVANCES: of all MEMBERS.")
    static void advances() {
        // Each is cut by itself.
        HailClub x = Check.book("member a;member b;member c;field a 0 0 0 1 199;field b 0 0 0 1 199;rate 10;goal 0;");
        Check.due("ADVANCES", x.now(3), 2);
        x.leave(0);
        Check.due("ADVANCES with one that LEAVES", x.now(3), 2);
        x.close();
        Check.due("ADVANCES with one GONE", x.now(3), 1);
    }

    @Says(in = "Terms 3", words = "NET not above ADVANCES: SURPLUS is what is between")
    static void surplus() {
        Check.now(hit(THREE + "goal 0;pay 1;", 0), 10, 0, 10, 30, 0, 20, 0, 0, 0, 0, 0);
        Check.now(hit(THREE + "goal 0;pay 1;retain 4;cover 5 100;", 0), 10, 5, 5, 30, 0, 25, 0, 0, 0, 0, 0);
        // NET is as much as ADVANCES, and one COIN less.
        Check.now(hit(THREE + "goal 0;pay 1;"), 30, 0, 30, 30, 0, 0, 0, 0, 0, 0, 0);
        Check.now(hit(THREE + "goal 0;pay 1;retain 29;cover 1 100;reserve 9;"), 30, 1, 29, 30, 0, 1, 0, 0, 0, 0, 9);
    }

    @Says(in = "Terms 3", words = "as much as GOAL times all SUMS by 100 (cut) is above the RESERVE")
    static void buildsTheReserve() {
        Check.now(hit(THREE + "goal 1;reserve 25;pay 1;", 0), 10, 0, 10, 30, 5, 15, 0, 0, 0, 0, 30);
        Check.now(hit(THREE + "goal 1;reserve 29;pay 1;", 0), 10, 0, 10, 30, 1, 19, 0, 0, 0, 0, 30);
        // 1 by the hundred of 199 is 1.
        HailClub x = Check.book("member a;field a 0 0 0 1 199;rate 999;goal 1;");
        Check.now(x, 0, 0, 0, 198, 1, 197, 0, 0, 0, 0, 1);
        // SUMS, not POINTS.
        x = Check.book("member a;field a 0 0 0 1 100;hazard 0 0 0 0 9;rate 999;goal 50;");
        Check.now(x, 0, 0, 0, 899, 50, 849, 0, 0, 0, 0, 50);
    }

    @Says(in = "Terms 3", words = "(0 at least) goes to the RESERVE")
    static void goesToTheReserve() {
        Check.now(hit(THREE + "goal 1;reserve 30;pay 1;", 0), 10, 0, 10, 30, 0, 20, 0, 0, 0, 0, 30);
        Check.now(hit(THREE + "goal 1;reserve 31;pay 1;", 0), 10, 0, 10, 30, 0, 20, 0, 0, 0, 0, 31);
        Check.now(hit(THREE + "goal 1;reserve 9999;pay 1;", 0), 10, 0, 10, 30, 0, 20, 0, 0, 0, 0, 9999);
        // No more than the SURPLUS there is.
        Check.now(hit(THREE + "goal 1;reserve 10;pay 1;", 0), 10, 0, 10, 30, 20, 0, 0, 0, 0, 0, 30);
        HailClub x = hit(THREE + "goal 1;reserve 9;pay 1;", 0);
        Check.now(x, 10, 0, 10, 30, 20, 0, 0, 0, 0, 0, 29);
        x.close();
        Check.due("RESERVE", x.club(1), 29);
    }

    @Says(in = "Terms 3", words = "the rest is GIVEN BACK, DIVIDED by ADVANCES")
    static void givenBack() {
        HailClub x = hit(THREE + "goal 0;pay 1;", 0);
        Check.each(x, 2, 7, 7, 6);
        // ADVANCES 10 and 30 by their HAZARDS, 20 of them left.
        x = hit("member a;member b;field a 0 0 0 10 100;field b 1 0 0 10 100;hazard 1 0 1 0 3;goal 0;pay 2;", 0);
        Check.now(x, 20, 0, 20, 40, 0, 20);
        Check.each(x, 2, 5, 15);
        // One without an ADVANCE gets nothing; a POINT that brings none has no weight.
        x = Check.book("member z;member a;member b;field a 0 0 0 1 99;field b 1 0 0 1 100;goal 0;");
        Check.now(x, 0, 0, 0, 1, 0, 1);
        Check.each(x, 2, 0, 0, 1);
        // By ADVANCES, 1 and 1, not by POINTS, 100 and 199: the one COIN is the first's.
        x = hit("member a;member b;field a 0 0 0 1 100;field b 1 0 0 1 199;goal 0;pay 1;", 0);
        Check.now(x, 1, 0, 1, 2, 0, 1);
        Check.each(x, 2, 1, 0);
    }

    @Says(in = "Terms 3", words = "Else SHORT is what is between")
    static void shortOf() {
        HailClub x = hit(UNEVEN + "pay 2;cap 99;");
        Check.now(x, 23, 0, 23, 11, 0, 0, 0, 12, 0, 0, 0);
        x.set(0, 19);
        Check.now(x, 23, 0, 23, 22, 0, 0, 0, 1, 0, 0, 0);
        x.set(0, 20);
        Check.now(x, 23, 0, 23, 23, 0, 0, 0, 0, 0, 0, 0);
    }

    @Says(in = "Terms 3", words = "the RESERVE bears the half of itself (cut) at most")
    static void reserveBears() {
        int[] reserves = {0, 1, 2, 5, 23, 24, 25, 1000};
        int[] borne = {0, 0, 1, 2, 11, 12, 12, 12};
        for (int i = 0; i < reserves.length; i++) {
            HailClub x = hit(UNEVEN + "pay 2;cap 99;reserve " + reserves[i] + ";");
            Check.now(x, 23, 0, 23, 11, 0, 0, borne[i], 12 - borne[i], 0, 0, reserves[i] - borne[i]);
            x.close();
            Check.due("RESERVE", x.club(1), reserves[i] - borne[i]);
        }
    }

    @Says(in = "Terms 3", words = "the rest is CALLED, DIVIDED by POINTS")
    static void called() {
        HailClub x = hit(UNEVEN + "pay 2;cap 99;reserve 4;");
        Check.now(x, 23, 0, 23, 11, 0, 0, 2, 10, 0, 0, 2);
        Check.each(x, 3, 2, 8);
        // By POINTS, not by SUMS or CLAIMS: 1000 and 3000.
        x = hit("member a;member b;field a 0 0 0 10 100;field b 1 0 0 10 100;hazard 1 0 1 0 3;cap 99;pay 5;goal 0;");
        Check.now(x, 100, 0, 100, 40, 0, 0, 0, 60, 0, 0, 0);
        Check.each(x, 3, 15, 45);
    }

    @Says(in = "Terms 3", words = "who would be called for more than CAP times its ADVANCE is called for just that")
    static void capped() {
        HailClub x = hit(UNEVEN + "pay 2;cap 2;");
        Check.each(x, 3, 2, 10);
        x.set(5, 1);
        Check.each(x, 3, 1, 10);
        x.set(5, 0);
        Check.each(x, 3, 0, 0);
        // a would be called for all it may be, not for more: it is not held, and the odd COIN is c's.
        x = hit("member a;member b;member c;field a 0 0 0 1 100;field b 0 0 0 1 100;field c 0 0 0 1 300;rate 10;cap 1;"
            + "pay 2;retain 8;cover 9 100;");
        Check.now(x, 10, 2, 8, 5, 0, 0, 0, 3, 0, 0, 0);
        Check.each(x, 3, 1, 0, 2);
    }

    @Says(in = "Terms 3", words = "what is left is DIVIDED anew among those that were not held so far")
    static void dividedAnew() {
        // SHORT 20 of ADVANCES 1, 10, 10: a is held at 1; of 19 the first of two alike gets the odd one.
        HailClub x = hit(UNEVEN + "member c;field c 0 0 0 10 100;cap 1;pay 2;retain 41;cover 9 100;");
        Check.now(x, 43, 2, 41, 21, 0, 0, 0, 20, 0, 0, 0);
        Check.each(x, 3, 1, 10, 9);
        // One without POINTS is called for nothing, though it is not held.
        x = hit("member z;" + UNEVEN + "cap 1;pay 2;retain 22;cover 1 100;");
        Check.now(x, 23, 1, 22, 11, 0, 0, 0, 11, 0, 0, 0);
        Check.each(x, 3, 0, 1, 10);
    }

    @Says(in = "Terms 3", words = "and so on")
    static void andSoOn() {
        // SHORT 14: of it a would get 2 and is held, of 13 b would get 4 and is held, c gets 10.
        HailClub x = hit(STEPS + "2 100;", 2);
        Check.now(x, 30, 2, 28, 14, 0, 0, 0, 14, 0, 0, 0);
        Check.each(x, 3, 1, 3, 10);
    }

    @Says(in = "Terms 3", words = "and so on")
    static void twelveTimesAnew() {
        // SHORT is all that may be CALLED; but one is held each time: b, c, e, f, a, d, g, i, h, j, k.
        HailClub x = hit(TWELVE);
        Check.now(x, 14112, 13850, 262, 131, 0, 0, 0, 131, 0, 0, 0);
        Check.each(x, 3, 3, 4, 5, 10, 10, 10, 12, 13, 13, 14, 17, 20);
    }

    @Says(in = "Terms 3", words = "till nobody would be called for more")
    static void tillNobodyMore() {
        // SHORT 13: a would get 2 and is held, of 12 b gets 3 and c 9.
        HailClub x = hit(STEPS + "3 100;", 2);
        Check.now(x, 30, 3, 27, 14, 0, 0, 0, 13, 0, 0, 0);
        Check.each(x, 3, 1, 3, 9);
        // SHORT 5: by POINTS 0, 1 and 3, and the greatest rest is a's.
        x = hit(STEPS + "11 100;", 2);
        Check.now(x, 30, 11, 19, 14, 0, 0, 0, 5, 0, 0, 0);
        Check.each(x, 3, 1, 1, 3);
    }

    @Says(in = "Terms 3", words = "or nobody is left.")
    static void orNobodyIsLeft() {
        // SHORT 15, and all are held at 14.
        HailClub x = hit(STEPS + "1 100;", 2);
        Check.now(x, 30, 1, 29, 14, 0, 0, 0, 14, 1, 0, 0);
        Check.each(x, 3, 1, 3, 10);
        Check.each(x, 1, 0, 0, 1);
        // Twelve, and none of them may be called for anything.
        StringBuilder text = new StringBuilder("rate 10;cap 0;goal 0;pay 50;");
        for (int i = 0; i < 12; i++) {
            char name = (char) ('a' + i);
            text.append("member ").append(name).append(";field ").append(name).append(" 0 0 0 1 ").append(1 << Math.min(i, 9))
                .append(';');
        }
        x = hit(text.toString());
        // CLAIMS 0, 1, 2, 4 .. 256, 256, 256; ADVANCES 1, 2, 5, 5, 5 of those from 128 on.
        Check.now(x, 1023, 0, 1023, 18, 0, 0, 0, 0, 1005, 0, 0);
        Check.each(x, 3, 0, 0, 0, 0, 0, 0, 0, 0, 0, 0, 0, 0);
    }

    @Says(in = "Terms 3", words = "What is left then is CUT from CLAIMS of MEMBERS, DIVIDED by them.")
    static void cut() {
        // CLAIMS 3 and 20.
        HailClub x = hit(UNEVEN + "pay 2;cap 1;");
        Check.now(x, 23, 0, 23, 11, 0, 0, 0, 11, 1, 0, 0);
        Check.each(x, 1, 0, 1);
        x.set(5, 0);
        Check.now(x, 23, 0, 23, 11, 0, 0, 0, 0, 12, 0, 0);
        Check.each(x, 1, 2, 10);
        x.set(0, 0);
        Check.now(x, 23, 0, 23, 0, 0, 0, 0, 0, 23, 0, 0);
        Check.each(x, 1, 3, 20);
        // By CLAIMS, not by POINTS.
        x = hit(THREE + "rate 0;pay 10;reserve 100;", 1);
        Check.now(x, 100, 0, 100, 0, 0, 0, 50, 0, 50, 0, 50);
        Check.each(x, 1, 0, 50, 0);
    }

    @Says(in = "Terms 3", words = "Then those that LEAVE, by numbers")
    static void byNumbers() {
        HailClub x = Check.book(THREE + "rate 0;goal 10;");
        x.leave(1);
        x.leave(0);
        // a: of 300 the third is 100, four fifths 80. b: of 200 less 80 the half is 60, four fifths 48.
        Check.each(x, 4, 80, 48, 0);
        x.undo();
        Check.each(x, 4, 0, 80, 0);
    }

    @Says(in = "Terms 3", words = "DUES: of what the GOAL is above the RESERVE")
    static void duesOfTheGoal() {
        int[] reserves = {0, 100, 285, 297, 300};
        long[] dues = {80, 52, 4, 0, 0};
        for (int i = 0; i < reserves.length; i++) {
            HailClub x = Check.book(THREE + "rate 0;goal 10;reserve " + reserves[i] + ";");
            x.leave(0);
            Check.each(x, 4, dues[i], 0, 0);
        }
    }

    @Says(in = "Terms 3", words = "(0 at least; as both are then)")
    static void asBothAreThen() {
        HailClub x = Check.book(THREE + "rate 0;goal 10;reserve 301;");
        x.leave(0);
        Check.each(x, 4, 0, 0, 0);
        x = Check.book(THREE + "rate 0;goal 0;reserve 99999999;");
        x.leave(0);
        Check.now(x, 0, 0, 0, 0, 0, 0, 0, 0, 0, 0, 99999999);
        // What goes to the RESERVE is there: of 270 the third is 90.
        x = Check.book(THREE + "rate 10;goal 10;");
        x.leave(2);
        Check.now(x, 0, 0, 0, 30, 30, 0, 0, 0, 0, 72, 102);
        // What it bore is not: 300 less 90 is 210, the third of it 70.
        x = hit(THREE + "rate 0;goal 10;reserve 100;pay 1;", 0);
        x.leave(2);
        Check.now(x, 10, 0, 10, 0, 0, 0, 10, 0, 0, 56, 146);
        // The GOAL is of those that are there yet: 100 behind a and b, and the RESERVE has 128.
        x = Check.book(THREE + "rate 0;goal 10;");
        x.leave(0);
        x.leave(1);
        x.leave(2);
        Check.each(x, 4, 80, 48, 0);
        Check.due("RESERVE behind", x.now(10), 128);
    }

    @Says(in = "Terms 3", words = "the part of its POINTS of all POINTS (of those that are there yet), cut")
    static void partOfPoints() {
        // By POINTS 1000 of 4000 and 3000 of 4000, of 200.
        String text = "member a;member b;field a 0 0 0 10 100;field b 1 0 0 10 100;hazard 1 0 1 0 3;rate 0;goal 10;";
        HailClub x = Check.book(text);
        x.leave(0);
        Check.each(x, 4, 40, 0);
        x = Check.book(text);
        x.leave(1);
        Check.each(x, 4, 0, 120);
        // Behind a, whose 40 are there, all POINTS are b's: of 100 less 40 all, four fifths 48.
        x.leave(0);
        Check.each(x, 4, 40, 48);
        // SUMS and POINTS of the first are gone when the second owes.
        x = Check.book("member b;member a;member c;field a 0 0 0 10 100;field b 1 0 0 10 100;field c 2 0 0 10 100;"
            + "hazard 1 0 1 0 4;rate 0;goal 30;");
        x.leave(0);
        x.leave(1);
        // b: of 900 by 4000 of 6000 it is 600, four fifths 480. a: of 600 less 480 the half is 60, four fifths 48.
        Check.each(x, 4, 480, 48, 0);
        // The half of 3 is 1, and four fifths of that 0.
        x = Check.book("member a;member b;field a 0 0 0 1 15;field b 0 0 0 1 15;rate 0;goal 10;");
        x.leave(0);
        Check.each(x, 4, 0, 0);
        // Without POINTS.
        x = Check.book("member z;member a;field a 0 0 0 1 100;rate 0;goal 100;");
        x.leave(0);
        Check.each(x, 4, 0, 0);
        x = Check.book("member z;member y;rate 0;goal 100;");
        x.leave(0);
        Check.each(x, 4, 0, 0);
    }

    @Says(in = "Terms 3", words = "times what its YEARS (this one, too) are less than 5 (0 at least) by 5")
    static void lessThanFiveYears() {
        long[] owed = {80, 60, 40, 20, 0, 0, 0};
        long[] odd = {79, 59, 39, 19, 0, 0, 0};
        HailClub x = Check.book(THREE + "rate 0;goal 10;");
        HailClub y = Check.book(THREE + "rate 0;goal 10;reserve 1;");
        for (int year = 0; year < owed.length; year++) {
            x.leave(0);
            y.leave(0);
            Check.due("DUES with YEARS " + year, x.mine(0, 4), owed[year]);
            // The third of 299 is 99.
            Check.due("DUES of 99 with YEARS " + year, y.mine(0, 4), odd[year]);
            x.undo();
            y.undo();
            x.close();
            y.close();
        }
        // Each by its own YEARS.
        x = Check.book("member a;field a 0 0 0 10 100;rate 0;goal 10;");
        x.close();
        x.close();
        Check.join(x, "b 0 0 0 10 100");
        x.leave(0);
        x.leave(1);
        // a: of 200 the half is 100, two fifths 40. b: 100 less 40 is 60, four fifths 48.
        Check.each(x, 4, 40, 48);
    }

    @Says(in = "Terms 3", words = ", cut: it goes to the RESERVE")
    static void duesGoToTheReserve() {
        HailClub x = Check.book(THREE + "rate 0;goal 10;reserve 7;");
        x.leave(0);
        x.leave(2);
        // Of 293 the third is 97, four fifths 77; then 200 less 84 is 116, the half 58, four fifths 46.
        Check.each(x, 4, 77, 0, 46);
        Check.now(x, 0, 0, 0, 0, 0, 0, 0, 0, 0, 123, 130);
        x.close();
        Check.due("RESERVE", x.club(1), 130);
    }

    @Says(in = "Terms 3", words = "the MEMBER and its FIELDS are GONE")
    static void gone() {
        HailClub x = Check.book("member a;member b;field a 0 0 0 1 10;field b 0 0 0 1 20;field a 0 0 0 1 30;");
        x.leave(0);
        x.close();
        Check.due("MEMBER there", x.member(0, 0), 0);
        Check.due("the other", x.member(1, 0), 1);
        long[] there = {0, 1, 0};
        for (int field = 0; field < 3; field++) {
            Check.due("FIELD " + field + " there", x.field(field, 6), there[field]);
        }
        Check.due("MEMBERS", x.look(0), 1);
        Check.due("FIELDS", x.look(1), 1);
        Check.due("SUMS", x.club(8), 20);
        Check.due("LEAVES at no END again", x.leave(0), false);
        x.close();
        Check.due("the other stays", x.member(1, 0), 1);
    }

    @Says(in = "Terms 3", words = "YEARS of the others are one more")
    static void yearsOfTheOthers() {
        HailClub x = Check.book("member a;member b;member c;");
        x.leave(1);
        x.close();
        Check.join(x, "d");
        x.close();
        long[] years = {2, 0, 2, 1};
        for (int member = 0; member < years.length; member++) {
            Check.due("YEARS of " + member, x.member(member, 2), years[member]);
        }
    }

    @Says(in = "Terms 3", words = "STORMS are none")
    static void stormsAreNone() {
        HailClub x = hit(UNEVEN);
        x.close();
        Check.due("STORMS", x.look(2), 0);
        Check.due("LOST", x.field(0, 7), 0);
        Check.due("LOSSES", x.now(0), 0);
        Check.due("alone(0, 0)", x.alone(0, 0), -1);
    }

    @Says(in = "Terms 3", words = "it is the next YEAR (0 at first)")
    static void nextYear() {
        HailClub x = Check.book("member a;");
        for (int year = 0; year < 10; year++) {
            Check.due("YEAR", x.look(3), year);
            x.close();
        }
        Check.due("YEAR of a new object", new HailClub().look(3), 0);
    }

    @Says(in = "Terms 3", words = "BALANCE of a MEMBER in the latest END: CLAIMS, less what was CUT of them, GIVEN BACK, "
        + "less ADVANCE, CALLED, DUES.")
    static void balance() {
        // SHORT 12 of CLAIMS 3 and 20; a owes of 599 the part of 199 by 1199, cut, four fifths.
        HailClub x = hit(UNEVEN + "pay 2;cap 1;goal 50;");
        x.leave(0);
        Check.mine(x, 0, 3, 0, 0, 1, 79, 3 - 1 - 1 - 79);
        Check.mine(x, 1, 20, 1, 0, 10, 0, 20 - 1 - 10 - 10);
        x.close();
        Check.due("then(0, 5)", x.then(0, 5), -78);
        Check.due("then(1, 5)", x.then(1, 5), -1);
        // SURPLUS 20.
        x = hit(THREE + "goal 0;pay 1;", 0);
        x.close();
        long[] balances = {10 + 7 - 10, 7 - 10, 6 - 10};
        for (int member = 0; member < 3; member++) {
            Check.due("then(" + member + ", 5)", x.then(member, 5), balances[member]);
        }
    }

    @Says(in = "Terms 3", words = "BALANCE of a MEMBER in the latest END: CLAIMS, less what was CUT of them, GIVEN BACK, "
        + "less ADVANCE, CALLED, DUES.")
    static void balancesOfTwelve() {
        HailClub x = hit(ALIKE + "cap 1;goal 0;");
        Check.now(x, 1200, 0, 1200, 12, 0, 0, 0, 12, 1176, 0, 0);
        allAlike(x, 100, 98, 0, 1, 0, 0);
        x.undo();
        // What was CUT and CALLED is nothing now.
        Check.now(x, 0, 0, 0, 12, 0, 12, 0, 0, 0, 0, 0);
        allAlike(x, 0, 0, 1, 0, 0, 0);
        x.set(6, 100);
        Check.now(x, 0, 0, 0, 12, 12, 0, 0, 0, 0, 0, 12);
        allAlike(x, 0, 0, 0, 0, 0, -1);
        x.leave(11);
        x.leave(10);
        // k: of 1188 the twelfth is 99, four fifths 79. l: 1100 less 91 is 1009, the eleventh 91, four fifths 72.
        Check.mine(x, 10, 0, 0, 0, 0, 79, -80);
        Check.mine(x, 11, 0, 0, 0, 0, 72, -73);
        Check.now(x, 0, 0, 0, 12, 12, 0, 0, 0, 0, 151, 163);
        x.close();
        Check.due("then(9, 5)", x.then(9, 5), -1);
        Check.due("then(10, 5)", x.then(10, 5), -80);
        Check.due("then(11, 5)", x.then(11, 5), -73);
    }

    private static void allAlike(HailClub x, long... want) {
        for (int member = 0; member < 12; member++) {
            Check.mine(x, member, want);
        }
    }

    @Says(in = "Terms 3", words = "WHO JOINS with FIELDS buys in: RESERVE times the POINTS it comes with by POINTS of all others")
    static void buysIn() {
        HailClub x = Check.book("member a;member b;field a 0 0 0 10 100;field b 1 0 0 10 100;hazard 1 0 1 0 3;reserve 1000;");
        // By POINTS: 1000 of its own to 4000, then 3000 to 5000.
        Check.due("join c", Check.join(x, "c 0 0 0 10 100"), 250);
        Check.due("join d", Check.join(x, "d 1 0 0 10 100"), 750);
        Check.due("join e without FIELDS", Check.join(x, "e"), 0);
        Check.due("join f with two", Check.join(x, "f 1 0 0 10 100 0 0 0 10 100"), 1000);
        // The RESERVE times the most POINTS of a FIELD is far above an int.
        x = Check.book("member a;field a 0 0 0 99 999;hazard 0 0 0 0 9;reserve 9999999;");
        Check.due("join with the same", Check.join(x, "b 0 0 0 99 999"), 9999999);
    }

    @Says(in = "Terms 3", words = "(cut; 0 without others)")
    static void buysInCut() {
        HailClub x = Check.book("member a;field a 0 0 0 1 4;reserve 10;");
        Check.due("join with 3 to 4", Check.join(x, "b 0 0 0 1 3"), 7);
        Check.due("RESERVE", x.club(1), 17);
        x = Check.book("reserve 10;");
        Check.due("join of the first", Check.join(x, "a 0 0 0 1 3"), 0);
        Check.due("RESERVE of the first", x.club(1), 10);
        x = Check.book("member a;reserve 10;");
        Check.due("join to one without POINTS", Check.join(x, "b 0 0 0 1 3"), 0);
        x = Check.book("member a;field a 0 0 0 1 4;reserve 10;goal 0;rate 0;");
        x.leave(0);
        x.close();
        Check.due("join with all others GONE", Check.join(x, "b 0 0 0 1 3"), 0);
        Check.due("join to that one", Check.join(x, "c 0 0 0 1 2"), 6);
    }

    @Says(in = "Terms 3", words = "9999999 at most")
    static void buysInAtMost() {
        String text = "member a;field a 0 0 0 1 10;reserve ";
        Check.due("join for 9999998.9", Check.join(Check.book(text + "99999989;"), "b 0 0 0 1 1"), 9999998);
        Check.due("join for 9999999", Check.join(Check.book(text + "99999990;"), "b 0 0 0 1 1"), 9999999);
        Check.due("join for 10000000", Check.join(Check.book(text + "50000000;"), "b 0 0 0 1 2"), 9999999);
        HailClub x = Check.book("member a;field a 0 0 0 1 1;hazard 1 0 1 0 9;reserve 99999999;");
        Check.due("join for more than an int", Check.join(x, "b 1 0 0 99 999"), 9999999);
    }

    @Says(in = "Terms 3", words = "at most, goes to the RESERVE")
    static void buyingInGoesToTheReserve() {
        HailClub x = Check.book("member a;field a 0 0 0 1 10;reserve 100;");
        Check.join(x, "b 0 0 0 1 5");
        Check.due("RESERVE", x.club(1), 150);
        Check.join(x, "c 0 0 0 1 15");
        Check.due("RESERVE then", x.club(1), 300);
        Check.due("RESERVE behind the END", x.now(10), 300);
        x.undo();
        Check.due("RESERVE undone", x.club(1), 150);
        Check.joinFault(x, "c 0 0 0 1 15;", 1, 12);
        Check.due("RESERVE with a FAULT", x.club(1), 150);
    }

    @Says(in = "Terms 3", words = "The constants: `NONE = -1`: None.")
    static void constants() throws Exception {
        Check.due("NONE", HailClub.NONE, -1);
        Check.due("kind of NONE", HailClub.class.getField("NONE").getType() == int.class, true);
    }
}
