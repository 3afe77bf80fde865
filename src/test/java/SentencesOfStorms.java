/** Terms 2: STORMS, what is LOST and PAID, ADVANCES, DIVIDED. */
final class SentencesOfStorms {
    private SentencesOfStorms() {
    }

    @Says(in = "Terms 2", words = "STORMS of a YEAR, 16 at most")
    static void sixteenAtMost() {
        HailClub x = Check.book("member a;field a 0 0 0 1 1;");
        for (int i = 1; i <= 16; i++) {
            Check.due("storm " + i, x.storm(0, 0, 0, 0, 1), 1);
        }
        Check.due("storm 17", x.storm(0, 0, 0, 0, 1), -1);
        Check.due("STORMS", x.look(2), 16);
        Check.due("LOST", x.field(0, 7), 16);
        x.undo();
        Check.due("storm 16 again", x.storm(0, 0, 0, 0, 1), 1);
        x.close();
        for (int i = 1; i <= 16; i++) {
            Check.due("storm " + i + " of the next YEAR", x.storm(0, 0, 0, 0, 1), 1);
        }
        Check.due("storm 17 of the next YEAR", x.storm(0, 0, 0, 0, 1), -1);
    }

    @Says(in = "Terms 2", words = "from x, y to x, y (rising or alike)")
    static void fromTo() {
        HailClub x = Check.book("member a;field a 2 3 0 1 1;field a 5 3 0 1 1;field a 2 6 0 1 1;field a 5 6 0 1 1;");
        Check.due("storm to its edges", x.storm(2, 3, 5, 6, 1), 4);
        Check.due("storm from one more x", x.storm(3, 3, 5, 6, 1), 2);
        Check.due("storm from one more y", x.storm(2, 4, 5, 6, 1), 2);
        Check.due("storm to one less x", x.storm(2, 3, 4, 6, 1), 2);
        Check.due("storm to one less y", x.storm(2, 3, 5, 5, 1), 2);
        Check.due("storm on one CELL", x.storm(5, 3, 5, 3, 1), 1);
        Check.due("storm beside all", x.storm(3, 0, 4, 7, 1), 0);
        Check.due("storm over THE MAP", x.storm(0, 0, 7, 7, 1), 4);
        Check.due("storm with x falling", x.storm(3, 3, 2, 6, 1), -1);
        Check.due("storm with y falling", x.storm(2, 4, 5, 3, 1), -1);
        long[] lost = {4, 5, 4, 4};
        for (int field = 0; field < 4; field++) {
            Check.due("LOST of " + field, x.field(field, 7), lost[field]);
        }
    }

    @Says(in = "Terms 2", words = "a STRENGTH 1 .. 100")
    static void strengths() {
        HailClub x = Check.book("member a;field a 0 0 0 1 1;field a 1 0 0 1 1;");
        Check.due("storm of 0", x.storm(0, 0, 0, 0, 0), -1);
        Check.due("storm of 1", x.storm(0, 0, 0, 0, 1), 1);
        Check.due("storm of 100", x.storm(1, 0, 1, 0, 100), 1);
        Check.due("storm of 101", x.storm(0, 0, 0, 0, 101), -1);
        Check.due("storm of -1", x.storm(0, 0, 0, 0, -1), -1);
        Check.due("LOST by 1", x.field(0, 7), 1);
        Check.due("LOST by 100", x.field(1, 7), 100);
    }

    /** LOST by one STORM. */
    private static void lost(int soft, int strength, long want) {
        HailClub x = Check.book("member a;field a 0 0 3 1 1;crop 3 " + soft + ";");
        x.storm(0, 0, 0, 0, strength);
        Check.due("LOST of SOFT " + soft + " by " + strength, x.field(0, 7), want);
    }

    @Says(in = "Terms 2", words = "LOST of a FIELD: STRENGTH times SOFT of its CROP by 100 (cut)")
    static void lostOfAField() {
        Check.due("LOST in a calm year", Check.book("member a;field a 0 0 0 1 1;").field(0, 7), 0);
        lost(100, 37, 37);
        lost(50, 41, 20);
        lost(1, 99, 0);
        lost(1, 100, 1);
        lost(199, 1, 1);
        lost(199, 50, 99);
        lost(200, 50, 100);
        lost(0, 100, 0);
    }

    @Says(in = "Terms 2", words = "of all STORMS over its CELL, together")
    static void stormsTogether() {
        HailClub x = Check.book("member a;field a 4 4 1 1 1;crop 1 50;");
        x.storm(0, 0, 4, 4, 41);
        x.storm(4, 4, 7, 7, 41);
        Check.due("LOST, cut of each", x.field(0, 7), 40);
        x.storm(0, 0, 3, 7, 100);
        x.storm(5, 0, 7, 7, 100);
        x.storm(4, 0, 4, 3, 100);
        x.storm(4, 5, 4, 7, 100);
        Check.due("LOST with those beside", x.field(0, 7), 40);
        x.storm(0, 0, 7, 7, 2);
        Check.due("LOST with one more", x.field(0, 7), 41);
    }

    @Says(in = "Terms 2", words = "100 at most")
    static void aHundredAtMost() {
        lost(200, 51, 100);
        lost(200, 100, 100);
        HailClub x = Check.book("member a;field a 0 0 0 1 1;");
        x.storm(0, 0, 0, 0, 60);
        x.storm(0, 0, 0, 0, 39);
        Check.due("LOST 99", x.field(0, 7), 99);
        x.storm(0, 0, 0, 0, 1);
        Check.due("LOST 100", x.field(0, 7), 100);
        x.storm(0, 0, 0, 0, 1);
        Check.due("LOST of 101", x.field(0, 7), 100);
    }

    @Says(in = "Terms 2", words = "PAID by the hundred: what \"pay\" is with loss (LOST)")
    static void paidByLoss() {
        HailClub x = Check.book("member a;field a 0 0 0 1 1;field a 1 0 1 1 1;field a 2 0 0 1 1;crop 1 50;pay loss-loss/3;");
        x.storm(0, 0, 1, 0, 61);
        Check.due("PAID of LOST 61", x.field(0, 8), 41);
        Check.due("PAID of LOST 30", x.field(1, 8), 20);
        Check.due("PAID of LOST 0", x.field(2, 8), 0);
        x.storm(0, 0, 0, 0, 100);
        Check.due("PAID of LOST 100", x.field(0, 8), 67);
    }

    @Says(in = "Terms 2", words = "hazard, years (YEARS of the MEMBER: how many ENDS it saw)")
    static void paidByHazardAndYears() {
        HailClub x = Check.book("member a;field a 3 4 0 1 1;hazard 3 4 3 4 6;hazard 4 3 4 3 8;pay hazard*10+years;");
        x.close();
        x.close();
        Check.join(x, "b 4 3 0 1 1");
        x.close();
        x.storm(0, 0, 7, 7, 100);
        Check.due("PAID of one that saw three ENDS", x.field(0, 8), 63);
        Check.due("PAID of one that saw one END", x.field(1, 8), 81);
        x.undo();
        x.undo();
        x.storm(0, 0, 7, 7, 100);
        Check.due("PAID with an END undone", x.field(0, 8), 62);
        Check.due("PAID of one that saw none then", x.field(1, 8), 80);
    }

    @Says(in = "Terms 2", words = "crop; 0 at least")
    static void paidByCropAtLeast() {
        HailClub x = Check.book("member a;field a 0 0 0 1 1;field a 0 0 1 1 1;field a 0 0 2 1 1;field a 0 0 3 1 1;"
            + "pay crop*10-20;");
        x.storm(0, 0, 0, 0, 100);
        long[] paid = {0, 0, 0, 10};
        for (int field = 0; field < 4; field++) {
            Check.due("PAID of CROP " + field, x.field(field, 8), paid[field]);
        }
    }

    @Says(in = "Terms 2", words = "LOST at most;")
    static void paidLostAtMost() {
        HailClub x = Check.book("member a;field a 0 0 0 1 1;field a 1 0 0 1 1;pay 50;");
        x.storm(0, 0, 0, 0, 49);
        Check.due("PAID of LOST 49", x.field(0, 8), 49);
        x.storm(0, 0, 0, 0, 1);
        Check.due("PAID of LOST 50", x.field(0, 8), 50);
        x.storm(0, 0, 0, 0, 1);
        Check.due("PAID of LOST 51", x.field(0, 8), 50);
        Check.due("PAID of LOST 0", x.field(1, 8), 0);
    }

    @Says(in = "Terms 2", words = "without \"pay\": LOST, 0 below 8")
    static void paidWithoutPay() {
        HailClub x = Check.book("member a;field a 0 0 0 1 1;field a 1 0 0 1 1;field a 2 0 0 1 1;");
        x.storm(0, 0, 1, 0, 7);
        x.storm(1, 0, 1, 0, 1);
        Check.due("PAID of LOST 7", x.field(0, 8), 0);
        Check.due("PAID of LOST 8", x.field(1, 8), 8);
        Check.due("PAID of LOST 0", x.field(2, 8), 0);
        x.storm(1, 0, 1, 0, 92);
        Check.due("PAID of LOST 100", x.field(1, 8), 100);
        // With a law the slight ones are paid, too.
        x = Check.book("member a;field a 0 0 0 1 1;pay loss;");
        x.storm(0, 0, 0, 0, 7);
        Check.due("PAID of LOST 7 by a law", x.field(0, 8), 7);
    }

    @Says(in = "Terms 2", words = "CLAIM: SUM times that by 100 (cut).")
    static void claims() {
        HailClub x = Check.book("member a;field a 0 0 0 3 33;field a 0 0 0 1 1;field a 0 0 0 99 999;hazard 0 0 0 0 9;");
        x.storm(0, 0, 0, 0, 99);
        Check.due("CLAIM of 99 by 99", x.field(0, 9), 98);
        Check.due("CLAIM of 1 by 99", x.field(1, 9), 0);
        Check.due("CLAIM of 98901 by 99", x.field(2, 9), 97911);
        x.storm(0, 0, 0, 0, 1);
        Check.due("CLAIM of 99", x.field(0, 9), 99);
        Check.due("CLAIM of 1", x.field(1, 9), 1);
        Check.due("CLAIM of 98901", x.field(2, 9), 98901);
        // Each is cut by itself.
        x = Check.book("member a;field a 0 0 0 1 99;field a 0 0 0 1 99;pay 50;");
        x.storm(0, 0, 0, 0, 100);
        Check.due("CLAIMS", x.member(0, 7), 98);
    }

    @Says(in = "Terms 2", words = "(FIELDS that are there as it stands.)")
    static void fieldsThatAreThere() {
        HailClub x = Check.book("member a;member b;field a 0 0 0 1 100;field b 0 0 0 1 100;");
        x.leave(0);
        x.close();
        Check.due("storm", x.storm(0, 0, 0, 0, 50), 1);
        Check.due("LOST of one GONE", x.field(0, 7), 0);
        Check.due("PAID of one GONE", x.field(0, 8), 0);
        Check.due("CLAIM of one GONE", x.field(0, 9), 0);
        Check.due("LOSSES", x.now(0), 50);
        Check.join(x, "c 0 0 0 1 10");
        Check.due("LOST of one that came behind the STORM", x.field(2, 7), 50);
        Check.due("LOSSES with it", x.now(0), 55);
    }

    @Says(in = "Terms 2", words = "ADVANCE of a MEMBER: POINTS times RATE by 1000 (cut).")
    static void advances() {
        HailClub x = Check.book("member a;member b;member c;field a 0 0 0 1 199;field b 1 0 0 99 999;hazard 1 0 1 0 9;rate 5;");
        Check.due("ADVANCE of 199 by 5", x.member(0, 6), 0);
        Check.due("ADVANCE of 890109 by 5", x.member(1, 6), 4450);
        Check.due("ADVANCE without FIELDS", x.member(2, 6), 0);
        x.set(0, 6);
        Check.due("ADVANCE of 199 by 6", x.member(0, 6), 1);
        x.set(0, 999);
        Check.due("ADVANCE of 199 by 999", x.member(0, 6), 198);
        Check.due("ADVANCE of 890109 by 999", x.member(1, 6), 889218);
        x.set(0, 0);
        Check.due("ADVANCE by 0", x.member(1, 6), 0);
        // POINTS are added ahead of the cut.
        x = Check.book("member a;field a 0 0 0 1 50;field a 1 0 0 1 50;rate 10;");
        Check.due("ADVANCE of two FIELDS", x.member(0, 6), 1);
    }

    /**
     * What each is CUT, DIVIDED by its CLAIM: nobody pays an ADVANCE, so nobody is CALLED; the RESERVE bears what
     * is more than the amount.
     */
    private static void divided(long amount, long[] claims, long... want) {
        StringBuilder text = new StringBuilder("rate 0;");
        long all = 0;
        for (int i = 0; i < claims.length; i++) {
            char name = (char) ('a' + i);
            text.append("member ").append(name).append(";field ").append(name).append(" 0 0 0 1 ").append(claims[i]).append(';');
            all += claims[i];
        }
        HailClub x = Check.book(text.append("reserve ").append(2 * (all - amount)).append(';').toString());
        x.storm(0, 0, 7, 7, 100);
        Check.due("CUT in all", x.now(8), amount);
        Check.each(x, 1, want);
    }

    @Says(in = "Terms 2", words = "DIVIDED: so much by weights: each gets it times the weight by all weights, cut")
    static void dividedByWeights() {
        divided(4, new long[] {4, 2, 2}, 2, 1, 1);
        divided(8, new long[] {4, 2, 2}, 4, 2, 2);
        divided(5, new long[] {7, 3}, 4, 1);
        divided(900, new long[] {999, 1}, 899, 1);
        divided(0, new long[] {4, 2, 2}, 0, 0, 0);
        // The greatest there can be: 24 FIELDS of 98901 COINS, CALLED at the most HAZARD.
        String fields = "field a 0 0 0 99 999;".repeat(12) + "field b 0 0 0 99 999;".repeat(12);
        HailClub x = Check.book("member a;member b;" + fields + "hazard 0 0 7 7 9;rate 100;cap 99;");
        x.storm(0, 0, 7, 7, 100);
        // ADVANCES of 1068130 each; SHORT is 2373624 less both.
        Check.now(x, 2373624, 0, 2373624, 2136260, 0, 0, 0, 237364, 0, 0, 0);
        Check.each(x, 3, 118682, 118682);
    }

    @Says(in = "Terms 2", words = "the COINS that are left one by one to those with the greatest rests")
    static void greatestRests() {
        divided(4, new long[] {5, 3, 2}, 2, 1, 1);
        divided(7, new long[] {3, 3, 5}, 2, 2, 3);
        divided(3, new long[] {1, 2, 4}, 0, 1, 2);
        divided(1, new long[] {1, 2}, 0, 1);
        divided(2, new long[] {2, 3, 4}, 0, 1, 1);
        divided(1, new long[] {3, 4, 3}, 0, 1, 0);
    }

    @Says(in = "Terms 2", words = "of equal ones the first")
    static void equalRests() {
        divided(1, new long[] {1, 1, 1}, 1, 0, 0);
        divided(2, new long[] {1, 1, 1}, 1, 1, 0);
        divided(3, new long[] {2, 1, 1, 2}, 1, 1, 0, 1);
        divided(5, new long[] {1, 1, 1, 1, 1, 1, 1, 1, 1, 1, 1, 1}, 1, 1, 1, 1, 1, 0, 0, 0, 0, 0, 0, 0);
        divided(11, new long[] {1, 1, 1, 1, 1, 1, 1, 1, 1, 1, 1, 1}, 1, 1, 1, 1, 1, 1, 1, 1, 1, 1, 1, 0);
    }

    @Says(in = "Terms 2", words = "(all weights 0: nobody gets anything)")
    static void noWeights() {
        // When b is held at nothing, z alone is left to be CALLED, and has no POINTS.
        HailClub x = Check.book("member z;member b;field b 0 0 0 1 100;rate 0;");
        x.storm(0, 0, 0, 0, 100);
        Check.now(x, 100, 0, 100, 0, 0, 0, 0, 0, 100, 0, 0);
        Check.each(x, 3, 0, 0);
        Check.each(x, 1, 0, 100);
        // Nobody has anything.
        x = Check.book("member z;member y;");
        Check.now(x, 0, 0, 0, 0, 0, 0, 0, 0, 0, 0, 0);
        Check.each(x, 2, 0, 0);
    }
}
