/** Promises 4 and 6, and what "pay" says: a BOOK and its FAULTS. */
public final class BookTest {
    public static void main(String[] args) {
        aBookSetsAll();
        aBookIsInPlaceOfAll();
        blanksAndNumbersAsOneLikes();
        whatCannotStandThere();
        names();
        numbersThatCannotBe();
        oneTooMany();
        brackets();
        theFirstFaultByItsPlace();
        faultOfTheLatest();
        sums();
        sumsWithYears();
        withoutPay();
        Check.close("BookTest");
    }

    private static void aBookSetsAll() {
        HailClub x = Check.book("member ann; member bob; field bob 1 2 3 99 999; field ann 7 0 0 1 1;"
            + "hazard 1 0 3 2 9; hazard 3 2 3 7 4; crop 3 200; crop 0 0; rate 999; reserve 99999999; retain 1234567;"
            + "cover 7654321 99; cap 98; goal 97;");
        long[] club = {999, 99999999, 1234567, 7654321, 99, 98, 97, 97L * 98902 / 100, 98902, 98901 * 9 + 1};
        for (int what = 0; what < club.length; what++) {
            Check.due("club(" + what + ")", x.club(what), club[what]);
        }
        long[] first = {1, 1, 2, 3, 99, 999, 1};
        long[] second = {0, 7, 0, 0, 1, 1, 1};
        for (int what = 0; what < first.length; what++) {
            Check.due("field(0, " + what + ")", x.field(0, what), first[what]);
            Check.due("field(1, " + what + ")", x.field(1, what), second[what]);
        }
        int[][] hazards = {{0, 0, 1}, {1, 0, 9}, {3, 1, 9}, {4, 1, 1}, {3, 2, 4}, {2, 2, 9}, {3, 7, 4}, {2, 3, 1}};
        for (int[] cell : hazards) {
            Check.due("hazard(" + cell[0] + ", " + cell[1] + ")", x.hazard(cell[0], cell[1]), cell[2]);
        }
        x.storm(0, 0, 7, 7, 30);
        Check.due("LOST of soft 200", x.field(0, 7), 60);
        Check.due("LOST of soft 0", x.field(1, 7), 0);
        Check.due("look(0)", x.look(0), 2);
        Check.due("look(1)", x.look(1), 2);
    }

    private static void aBookIsInPlaceOfAll() {
        HailClub x = Check.book("member ann; field ann 0 0 0 9 9; hazard 0 0 7 7 5; crop 0 7; rate 11; reserve 12;"
            + "retain 13; cover 14 15; cap 16; goal 17; pay 1;");
        x.storm(0, 0, 7, 7, 100);
        x.close();
        x.storm(0, 0, 7, 7, 100);
        x.leave(0);
        Check.put(x, "member new; field new 0 0 0 1 100;");
        Check.due("book", x.book(), 1);
        long[] club = {10, 0, 9999999, 0, 100, 4, 10};
        for (int what = 0; what < club.length; what++) {
            Check.due("club(" + what + ") anew", x.club(what), club[what]);
        }
        Check.due("hazard anew", x.hazard(3, 3), 1);
        Check.due("storms anew", x.look(2), 0);
        Check.due("year anew", x.look(3), 0);
        Check.due("undo anew", x.look(4), 0);
        Check.due("undo() anew", x.undo(), false);
        Check.due("then anew", x.then(0, 0), Long.MIN_VALUE);
        Check.due("leaves anew", x.member(0, 1), 0);
        Check.due("years anew", x.member(0, 2), 0);
        x.storm(0, 0, 0, 0, 60);
        Check.due("soft anew", x.field(0, 7), 60);
        Check.due("pay anew", x.field(0, 8), 60);
        // A join in between, and nobody in the BOOK: the END before is still none of its.
        x.close();
        Check.join(x, "b");
        Check.put(x, " ");
        Check.due("empty book", x.book(), 0);
        Check.due("then of an empty BOOK", x.then(0, 5), Long.MIN_VALUE);
    }

    private static void blanksAndNumbersAsOneLikes() {
        Check.bookFine("", 0);
        Check.bookFine(" \n ", 0);
        Check.bookFine("rate5;cap3;", 0);
        Check.bookFine("\nmember\na\n;\nfield a0 0 0 1\n1\n;", 1);
        Check.bookFine("rate 00000999;", 0);
        Check.bookFine("member abcdefg;member a;field a 07 007 3 99 999;", 1);
        HailClub x = Check.book("rate0000012;rate 13;");
        Check.due("the latter rate", x.club(0), 13);
    }

    private static void whatCannotStandThere() {
        Check.bookFault(";", 1, 0);
        Check.bookFault("rate 5;;", 1, 7);
        Check.bookFault(" \nx", 1, 2);
        Check.bookFault("5;", 1, 0);
        Check.bookFault("rate 5", 1, 6);
        Check.bookFault("rate 5 \n ", 1, 9);
        Check.bookFault("rate", 1, 4);
        Check.bookFault("rate;", 1, 4);
        Check.bookFault("rate 5 6;", 1, 7);
        Check.bookFault("rate x;", 1, 5);
        Check.bookFault("rate -5;", 1, 5);
        Check.bookFault("rate 123456789;", 1, 5);
        Check.bookFault("rate 000000001;", 1, 5);
        Check.bookFault("Rate 5;", 1, 0);
        Check.bookFault("rate\t5;", 1, 4);
        Check.bookFault("rate\r\n5;", 1, 4);
        Check.bookFault("rate 5;\0", 1, 7);
        Check.bookFault("rate 5;\u00ff", 1, 7);
        Check.bookFault("rates 5;", 1, 0);
        Check.bookFault("join a;", 1, 0);
        Check.bookFault("loss;", 1, 0);
        Check.bookFault("hazard 0 0 0 0;", 1, 14);
        Check.bookFault("hazard 0 0 0 0 1 1;", 1, 17);
        Check.bookFault("crop 0;", 1, 6);
        Check.bookFault("cover 0;", 1, 7);
        Check.bookFault("cap;", 1, 3);
        Check.bookFault("goal a;", 1, 5);
        Check.bookFault("retain reserve;", 1, 7);
        Check.bookFault("member a;field a 0 0 0 1;", 1, 24);
        Check.bookFault("member a;field a 0 0 0 1 1 1;", 1, 27);
        Check.bookFault("member a;field a 0,0 0 1 1;", 1, 18);
        Check.bookFault("pay;", 1, 3);
        Check.bookFault("pay", 1, 3);
        Check.bookFault("pay 1+;", 1, 6);
        Check.bookFault("pay -1;", 1, 4);
        Check.bookFault("pay 1 2;", 1, 6);
        Check.bookFault("pay 1**2;", 1, 6);
        Check.bookFault("pay area;", 1, 4);
        Check.bookFault("pay member;", 1, 4);
        Check.bookFault("pay 123456789;", 1, 4);
        Check.bookFault("pay loss)", 1, 8);
        Check.bookFault("pay 1(", 1, 5);
    }

    private static void names() {
        Check.bookFault("member;", 1, 6);
        Check.bookFault("member abcdefgh;", 1, 7);
        Check.bookFault("member a1;", 1, 8);
        Check.bookFault("member 1a;", 1, 7);
        Check.bookFault("member a b;", 1, 9);
        String[] taken = {"member", "field", "hazard", "crop", "rate", "reserve", "retain", "cover", "cap", "goal",
            "pay", "loss", "years", "min", "max", "if", "join", "leave"};
        for (String word : taken) {
            Check.bookFault("member " + word + ";", 1, 7);
            Check.bookFault("member a; field " + word + " 0 0 0 1 1;", 1, 16);
        }
        String[] free = {"by", "years" + "x", "soft", "named", "area", "club", "i", "mi", "maxi"};
        for (String word : free) {
            Check.bookFine("member " + word + ";field " + word + " 0 0 0 1 1;", 1);
        }
        Check.bookFault("member ann;member ann;", 2, 18);
        Check.bookFault("member ann;member bob; member ann!", 2, 30);
        Check.bookFault("member ann;field bob 0 0 0 1 1;", 3, 17);
        Check.bookFault("field ann 0 0 0 1 1;member ann;", 3, 6);
        Check.bookFault("field abcdefgh 0 0 0 1 1;", 1, 6);
        Check.bookFault("member ann;field 0 0 0 1 1;", 1, 17);
        // old is a MEMBER of the club that the BOOK comes in place of.
        Check.bookFault("field old 0 0 0 1 1;", 3, 6);
        HailClub x = Check.book("member old;");
        Check.put(x, "member old;");
        Check.due("the same NAME in the next BOOK", x.book(), 0);
    }

    private static void numbersThatCannotBe() {
        String[] fields = {"8 0 0 1 1", "0 8 0 1 1", "0 0 4 1 1", "0 0 0 0 1", "0 0 0 100 1", "0 0 0 1 0", "0 0 0 1 1000"};
        int[] places = {17, 19, 21, 23, 23, 25, 25};
        for (int i = 0; i < fields.length; i++) {
            Check.bookFault("member a;field a " + fields[i] + ";", 4, places[i]);
        }
        Check.bookFine("member a;field a 7 7 3 99 999;field a 0 0 0 1 1;", 2);
        Check.bookFault("hazard 8 0 7 7 1;", 4, 7);
        Check.bookFault("hazard 0 8 7 7 1;", 4, 9);
        Check.bookFault("hazard 0 0 8 7 1;", 4, 11);
        Check.bookFault("hazard 0 0 7 8 1;", 4, 13);
        Check.bookFault("hazard 5 0 4 0 1;", 4, 11);
        Check.bookFault("hazard 0 5 0 4 1;", 4, 13);
        Check.bookFault("hazard 0 0 7 7 0;", 4, 15);
        Check.bookFault("hazard 0 0 7 7 10;", 4, 15);
        Check.bookFine("hazard 7 7 7 7 9;hazard 0 0 7 7 1;", 0);
        Check.bookFault("crop 4 100;", 4, 5);
        Check.bookFault("crop 3 201;", 4, 7);
        Check.bookFine("crop 3 200;crop 0 0;", 0);
        Check.bookFault("rate 1000;", 4, 5);
        Check.bookFault("reserve 100000000;", 1, 8);
        Check.bookFine("reserve 99999999;retain 9999999;cover 9999999 100;cap 99;goal 100;rate 999;", 0);
        Check.bookFine("reserve 0;retain 0;cover 0 0;cap 0;goal 0;rate 0;", 0);
        Check.bookFault("retain 10000000;", 4, 7);
        Check.bookFault("cover 10000000 0;", 4, 6);
        Check.bookFault("cover 0 101;", 4, 8);
        Check.bookFault("cap 100;", 4, 4);
        Check.bookFault("goal 101;", 4, 5);
        Check.bookFine("pay 99999999;", 0);
    }

    private static String members(int count) {
        StringBuilder text = new StringBuilder();
        for (int i = 0; i < count; i++) {
            text.append("member m").append((char) ('a' + i)).append(';');
        }
        return text.toString();
    }

    private static void oneTooMany() {
        String twelve = members(12);
        Check.bookFine(twelve, 0);
        Check.bookFault(members(13), 5, 120);
        Check.bookFault(twelve + "member", 5, 120);
        Check.bookFault(twelve + " member ma;", 5, 121);
        String land = "field m 0 0 0 1 1;";
        String fields = "member m;" + land.repeat(24);
        Check.bookFine(fields, 24);
        Check.bookFault(fields + land, 5, 9 + 24 * 18);
        Check.bookFault(fields + "field x 9", 5, 9 + 24 * 18);
        Check.bookFault("pay 1;pay 2;", 5, 6);
        Check.bookFault("pay 1; rate 2; pay", 5, 15);
    }

    private static void brackets() {
        Check.bookFine("pay ((((((((1))))))));", 0);
        Check.bookFine("pay ((((((((1))))))))+((((((((1))))))))*min(1,(((((((2))))))));", 0);
        Check.bookFault("pay (((((((((1)))))))));", 5, 12);
        Check.bookFault("pay min(max(if((((((((", 5, 20);
        Check.bookFault("pay (((((((min(max(1", 5, 18);
        Check.bookFault("pay ((((((((min 1", 1, 16);
        Check.bookFault("pay (1;", 1, 6);
        Check.bookFault("pay (1,2);", 1, 6);
        Check.bookFault("pay ();", 1, 5);
        Check.bookFault("pay (1));", 1, 7);
        Check.bookFault("pay min 1,2;", 1, 8);
        Check.bookFault("pay min(1);", 1, 9);
        Check.bookFault("pay max(1,2,3);", 1, 11);
        Check.bookFault("pay if(1,2);", 1, 10);
        Check.bookFault("pay if(1,2,3,4);", 1, 12);
        Check.bookFault("pay if(1,2,3", 1, 12);
        Check.bookFault("pay min(,2);", 1, 8);
    }

    private static void theFirstFaultByItsPlace() {
        Check.bookFault("rate 1000", 4, 5);
        Check.bookFault("rate 1000; member loss;", 4, 5);
        Check.bookFault("member a; member a; rate 1000;", 2, 17);
        Check.bookFault("member a; rate 1000; member a;", 4, 15);
    }

    private static void faultOfTheLatest() {
        HailClub x = Check.put(new HailClub(), "rate 1000;");
        x.book();
        Check.due("fault(0)", x.fault(0), 4);
        Check.due("fault(1)", x.fault(1), 5);
        Check.due("fault(2)", x.fault(2), -1);
        Check.due("fault(-1)", x.fault(-1), -1);
        Check.put(x, "member a;");
        Check.due("fault(0) before the next", x.fault(0), 4);
        x.book();
        Check.due("fault(0) of a fine one", x.fault(0), 0);
        Check.due("fault(1) of a fine one", x.fault(1), -1);
        Check.join(x, " a");
        Check.due("fault(0) of a join", x.fault(0), 2);
        Check.due("fault(1) of a join", x.fault(1), 1);
        Check.join(x, "b");
        Check.due("fault(0) of a fine join", x.fault(0), 0);
        Check.due("fault(1) of a fine join", x.fault(1), -1);
    }

    /** PAID of a FIELD with CROP 1 at HAZARD 7 that LOST 50. */
    private static void paid(String sum, long want) {
        HailClub x = Check.book("member a;field a 2 3 1 10 100;hazard 2 3 2 3 7;pay " + sum + ";");
        x.storm(0, 0, 7, 7, 50);
        Check.due("PAID by " + sum, x.field(0, 8), want);
    }

    private static void sums() {
        paid("loss", 50);
        paid("hazard", 7);
        paid("years", 0);
        paid("crop", 1);
        paid("49", 49);
        paid("51", 50);
        paid("0-1", 0);
        paid("0", 0);
        paid("2+3*4", 14);
        paid("2*3+4", 10);
        paid("20-5-3", 12);
        paid("20-5+3", 18);
        paid("100/5/2", 10);
        paid("7/2*2", 6);
        paid("2*7/3", 4);
        paid("40-2*3-4/2", 32);
        paid("(2+3)*4", 20);
        paid("40-(5-3)", 38);
        paid("40/(4/2)", 20);
        paid("(0-7)/2+30", 27);
        paid("7/(0-2)+30", 27);
        paid("7/0+5", 5);
        paid("5+7/(crop-1)*9", 5);
        paid("min(3,4)+min(9,8)", 11);
        paid("max(3,4)+max(9,8)", 13);
        paid("if(1,2,3)", 2);
        paid("if(0,2,3)", 3);
        paid("if(0-1,2,3)", 3);
        paid("if(loss-49,hazard,crop)", 7);
        paid("if(loss-50,hazard,crop)", 1);
        paid("min(loss,if(crop,max(3,hazard*2),9))", 14);
        paid("1+if(1,2,3)*2-min(1,2)", 4);
        paid("1+(1+(1+(1+(1+(1+(1+(1+2*3)))))))", 14);
        paid("max(1,max(1,max(1,max(1,max(1,max(1,max(1,max(1,2+3*4))))))))", 14);
        paid("if(1+1*if(1+1*if(1+1*if(1+1*if(1,2,3),2,3),2,3),2,3),5,6)", 5);
        paid("if(0,0,1+1*if(0,0,1+1*if(0,0,1+1*if(0,0,1+1*if(0,0,1+1*if(0,0,1+1*if(0,0,1+1*if(0,0,2+3*4))))))))", 21);
        long cube = 99999999L * 99999999L * 99999999L;
        paid("if(99999999*99999999*99999999,1,2)", cube > 0 ? 1 : 2);
        paid("99999999*99999999*99999999/99999999/99999999", Math.max(0, Math.min(50, cube / 99999999L / 99999999L)));
        long wide = 3037000500L * 3037000500L;
        paid("if(30370005*100*(30370005*100),1,2)", wide > 0 ? 1 : 2);
    }

    private static void sumsWithYears() {
        HailClub x = Check.book("member a;field a 0 0 0 1 100;pay years*10+1;");
        for (int year = 0; year < 4; year++) {
            x.storm(0, 0, 0, 0, 100);
            Check.due("PAID in year " + year, x.field(0, 8), year * 10 + 1);
            x.close();
        }
    }

    private static void withoutPay() {
        HailClub x = Check.book("member a;field a 0 0 0 7 100;");
        x.storm(0, 0, 0, 0, 7);
        Check.due("LOST 7", x.field(0, 7), 7);
        Check.due("PAID for 7", x.field(0, 8), 0);
        x.storm(0, 0, 0, 0, 1);
        Check.due("PAID for 8", x.field(0, 8), 8);
        Check.due("CLAIM for 8", x.field(0, 9), 56);
    }
}
