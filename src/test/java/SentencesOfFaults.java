/** Terms 1, FAULTS. */
final class SentencesOfFaults {
    private SentencesOfFaults() {
    }

    @Says(in = "Terms 1", words = "FAULTS, the first by its place")
    static void theFirst() {
        Check.bookFault("rate 1000;member a;member a;x", 4, 5);
        Check.bookFault("member a;member a;rate 1000;x", 2, 16);
        Check.bookFault("field a 8 0 0 1 1;rate 1000;", 3, 6);
        Check.bookFault("member a;field a 8 9 4 0 0;", 4, 17);
        Check.bookFault("member a;field a 0 9 4 0 0", 4, 19);
        Check.bookFault("pay 1;pay 2;x", 5, 6);
        Check.bookFault("x;pay 1;pay 2;", 1, 0);
        Check.joinFault(new HailClub(), "a 0 8 4 0 0", 4, 4);
    }

    @Says(in = "Terms 1", words = "(from 0; the end: its length)")
    static void places() {
        Check.bookFault("x", 1, 0);
        Check.bookFault(" x", 1, 1);
        Check.bookFault("rate", 1, 4);
        Check.bookFault("rate 5", 1, 6);
        Check.bookFault("rate 5 \n ", 1, 9);
        Check.bookFault("\nrate 5;member\n", 1, 15);
        Check.joinFault(new HailClub(), "", 1, 0);
        Check.joinFault(new HailClub(), "  ", 1, 2);
        Check.joinFault(new HailClub(), "a 0 0 0 1", 1, 9);
    }

    private static String members(int count) {
        return SentencesOfTheMap.members(count);
    }

    @Says(in = "Terms 1", words = "of one place the least number")
    static void theLeast() {
        // 1 ahead of 5: none of these could stand there, were there room for one more.
        Check.bookFault(members(11) + "member x member y;", 1, 110 + 9);
        Check.bookFault("member m;" + "field m 0 0 0 1 1;".repeat(23) + "field m 0 0 0 1 1 field", 1, 9 + 24 * 18);
        Check.bookFault("pay 1 pay 2;", 1, 6);
        Check.bookFault("pay ((((((((1(", 1, 13);
        // 2 ahead of 5, 4 ahead of 5, 1 ahead of 5.
        HailClub x = Check.book(members(12));
        Check.joinFault(x, "mc", 2, 0);
        x = Check.book("member m;" + "field m 0 0 0 1 1;".repeat(24));
        Check.joinFault(x, "n 8 0 0 1 1", 4, 2);
        Check.joinFault(x, "n 000000007 0 0 1 1", 1, 2);
        Check.joinFault(x, "n n", 1, 2);
        Check.joinFault(x, "n 7 0 0 1 1", 5, 2);
    }

    @Says(in = "Terms 1", words = "1 what can't stand there (a WORD, an N that is too long: at its begin).")
    static void whatCannotStandThere() {
        Check.bookFault("  memberx a;", 1, 2);
        Check.bookFault("member  abcdefgh;", 1, 8);
        Check.bookFault("rate  123456789;", 1, 6);
        Check.bookFault("member a;field a 0 0 0 1 000000001;", 1, 25);
        Check.bookFault("pay 1+123456789;", 1, 6);
        Check.bookFault("pay 1+abcdefghij;", 1, 6);
        Check.bookFault("rate loss;", 1, 5);
        Check.bookFault("rate 5 rate", 1, 7);
        Check.bookFault("5;", 1, 0);
        Check.bookFault("loss 5;", 1, 0);
        Check.bookFault("\0", 1, 0);
        Check.bookFault("\u00ff", 1, 0);
        Check.joinFault(new HailClub(), "a 123456789 0 0 1 1", 1, 2);
        Check.joinFault(new HailClub(), " abcdefgh", 1, 1);
    }

    @Says(in = "Terms 1", words = "2 a NAME that a MEMBER has already, also one that is GONE (of member).")
    static void aNameTaken() {
        Check.bookFault("member ann;member ann;", 2, 18);
        Check.bookFault("member ann;member bob;member  bob;", 2, 30);
        Check.bookFine("member ann;member anna;member an;", 0);
        HailClub x = Check.book("member ann;member bob;");
        Check.put(x, "member bob;member ann;");
        Check.due("NAMES of the club before", x.book(), 0);
        x = Check.book("member ann;member bob;");
        Check.joinFault(x, " bob", 2, 1);
        x.leave(1);
        x.close();
        Check.joinFault(x, "bob", 2, 0);
        Check.joinFault(x, "ann", 2, 0);
        Check.due("join of another", Check.join(x, "bo"), 0);
        Check.joinFault(x, "bo", 2, 0);
        x.undo();
        Check.due("join of one that was undone", Check.join(x, "bo"), 0);
    }

    @Says(in = "Terms 1", words = "3 a NAME of no MEMBER ahead (of field).")
    static void aNameUnknown() {
        Check.bookFault("member ann;field bob 0 0 0 1 1;", 3, 17);
        Check.bookFault("field ann 0 0 0 1 1;member ann;", 3, 6);
        Check.bookFault("member ann;field an 0 0 0 1 1;", 3, 17);
        Check.bookFault("member ann;field anna 0 0 0 1 1;", 3, 17);
        // old is a MEMBER of the club that the BOOK would come in place of.
        Check.bookFault("field old 0 0 0 1 1;", 3, 6);
        Check.bookFine("member ann;field ann 0 0 0 1 1;", 1);
    }

    @Says(in = "Terms 1", words = "4 an N that can't be.")
    static void numbersThatCannotBe() {
        String[] lands = {"8 0 0 1 1", "0 8 0 1 1", "0 0 4 1 1", "0 0 0 0 1", "0 0 0 100 1", "0 0 0 1 0", "0 0 0 1 1000",
            "99999999 0 0 1 1"};
        int[] places = {0, 2, 4, 6, 6, 8, 8, 0};
        for (int i = 0; i < lands.length; i++) {
            Check.bookFault("member a;field a " + lands[i] + ";", 4, 17 + places[i]);
            Check.joinFault(new HailClub(), "a " + lands[i], 4, 2 + places[i]);
        }
        String[] hazards = {"8 0 7 7 1", "0 8 7 7 1", "0 0 8 7 1", "0 0 7 8 1", "5 0 4 0 1", "0 5 0 4 1", "0 0 0 0 0",
            "0 0 0 0 10"};
        int[] hazardPlaces = {0, 2, 4, 6, 4, 6, 8, 8};
        for (int i = 0; i < hazards.length; i++) {
            Check.bookFault("hazard " + hazards[i] + ";", 4, 7 + hazardPlaces[i]);
        }
        Check.bookFault("crop 4 0;", 4, 5);
        Check.bookFault("crop 0 201;", 4, 7);
        Check.bookFault("rate 1000;", 4, 5);
        Check.bookFault("retain 10000000;", 4, 7);
        Check.bookFault("cover 10000000 0;", 4, 6);
        Check.bookFault("cover 0 101;", 4, 8);
        Check.bookFault("cap 100;", 4, 4);
        Check.bookFault("goal 101;", 4, 5);
        // Any N can be in a law.
        Check.bookFine("pay 99999999+0;", 0);
    }

    @Says(in = "Terms 1", words = "5 one too many: the 13th MEMBER, the 25th FIELD (at its word)")
    static void membersAndFieldsTooMany() {
        Check.bookFine(members(12), 0);
        Check.bookFault(members(13), 5, 120);
        Check.bookFault(members(12) + " member 5", 5, 121);
        Check.bookFault(members(12) + "member ma;", 5, 120);
        String land = "field m 0 0 0 1 1;";
        Check.bookFine("member m;" + land.repeat(24), 24);
        Check.bookFault("member m;" + land.repeat(25), 5, 9 + 24 * 18);
        Check.bookFault("member m;" + land.repeat(24) + "\nfield x 9", 5, 10 + 24 * 18);
    }

    @Says(in = "Terms 1", words = "the 9th \"(\" that is open (at it)")
    static void bracketsTooMany() {
        Check.bookFine("pay ((((((((1))))))));", 0);
        Check.bookFault("pay (((((((((1)))))))));", 5, 12);
        Check.bookFault("pay (((((((( (x", 5, 13);
        // Those of min, max, if are some of them; those that are closed are none.
        Check.bookFault("pay min(max(if((((((1,", 1, 21);
        Check.bookFault("pay min(max(if(((((((1,", 5, 20);
        Check.bookFine("pay (1)+(2)+(3)+(4)+(5)+(6)+(7)+(8)+(9)+(10);", 0);
        Check.bookFine("pay ((((((((1)))))))+(2));", 0);
        Check.bookFault("pay ((((((((1)))))))+((2", 1, 24);
        Check.bookFine("pay (((((((min(1,2))))))));", 0);
        Check.bookFault("pay ((((((((min(1,2)))))))));", 5, 15);
        // A law with a FAULT leaves none of its open ones to the next.
        HailClub x = Check.put(new HailClub(), "pay ((((((((");
        x.book();
        Check.put(x, "pay ((((((((1))))))));");
        Check.due("the next law", x.book(), 0);
    }

    @Says(in = "Terms 1", words = "a second pay (at it)")
    static void aSecondPay() {
        Check.bookFault("pay 1;pay 2;", 5, 6);
        Check.bookFault("pay 1;rate 5; pay", 5, 14);
        HailClub x = Check.book("pay 1;");
        Check.put(x, "pay 2;");
        Check.due("a pay of the next BOOK", x.book(), 0);
        Check.put(x, "pay 2;x");
        x.book();
        Check.put(x, "pay 3;");
        Check.due("a pay behind a BOOK with a FAULT", x.book(), 0);
    }
}
