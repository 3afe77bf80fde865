/** Terms 1, SUM, PRODUCT and PART: the law in its small language. */
final class SentencesOfTheLaw {
    // 65536 four times over is 2 to the 64, so this is the least long there is.
    private static final String LEAST = "65536*65536*65536*32768";

    private SentencesOfTheLaw() {
    }

    /** PAID of a FIELD with CROP 2 at HAZARD 7 that LOST 100. */
    private static void paid(String sum, long want) {
        HailClub x = Check.book("member a;field a 4 5 2 1 1;hazard 4 5 4 5 7;pay " + sum + ";");
        x.storm(4, 5, 4, 5, 100);
        Check.due("PAID by " + sum, x.field(0, 8), want);
    }

    @Says(in = "Terms 1", words = "SUM: PRODUCT { ( \"+\" | \"-\" ) PRODUCT }")
    static void sums() {
        paid("5", 5);
        paid("5+6", 11);
        paid("50-6", 44);
        paid("50-6+7-8", 43);
        paid("1+2+3+4+5+6", 21);
        Check.bookFault("pay 1+;", 1, 6);
        Check.bookFault("pay 1-;", 1, 6);
        Check.bookFault("pay +1;", 1, 4);
        Check.bookFault("pay -1;", 1, 4);
        Check.bookFault("pay 1+-2;", 1, 6);
    }

    @Says(in = "Terms 1", words = "PRODUCT: PART { ( \"*\" | \"/\" ) PART }")
    static void products() {
        paid("2*3", 6);
        paid("20/3", 6);
        paid("2*3*4/2", 12);
        paid("2+3*4", 14);
        paid("2*3+4*5", 26);
        paid("50-2*3", 44);
        paid("50-20/2-6/2+1", 38);
        Check.bookFault("pay 2*;", 1, 6);
        Check.bookFault("pay 2/;", 1, 6);
        Check.bookFault("pay *2;", 1, 4);
        Check.bookFault("pay /2;", 1, 4);
        Check.bookFault("pay 2**3;", 1, 6);
        Check.bookFault("pay 2*+3;", 1, 6);
    }

    @Says(in = "Terms 1", words = "PART: N | \"loss\" | \"hazard\" | \"years\" | \"crop\"")
    static void parts() {
        paid("42", 42);
        paid("99999999/1000000", 99);
        paid("loss/4", 25);
        paid("hazard", 7);
        paid("crop", 2);
        paid("years", 0);
        HailClub x = Check.book("member a;field a 0 0 0 1 1;pay years;");
        x.close();
        x.close();
        x.storm(0, 0, 0, 0, 100);
        Check.due("PAID by years", x.field(0, 8), 2);
        String[] none = {"area", "value", "member", "rate", "lost", "a", "!", ";", ")", ","};
        for (String part : none) {
            Check.bookFault("pay " + part + ";", 1, 4);
        }
    }

    @Says(in = "Terms 1", words = "\"min\" \"(\" SUM \",\" SUM \")\"")
    static void min() {
        paid("min(3,5)", 3);
        paid("min(5,3)", 3);
        paid("min(4,4)", 4);
        paid("min(0-5,3)+50", 45);
        paid("min(1+2*3,4*5-9)", 7);
        Check.bookFault("pay min 3,5;", 1, 8);
        Check.bookFault("pay min(3);", 1, 9);
        Check.bookFault("pay min(3,5,7);", 1, 11);
        Check.bookFault("pay min(3,5;", 1, 11);
        Check.bookFault("pay min(,5);", 1, 8);
    }

    @Says(in = "Terms 1", words = "\"max\" \"(\" SUM \",\" SUM \")\"")
    static void max() {
        paid("max(3,5)", 5);
        paid("max(5,3)", 5);
        paid("max(4,4)", 4);
        paid("max(0-5,3)+50", 53);
        paid("max(0-5,0-3)+50", 47);
        paid("max(1+2*3,4*5-9)", 11);
        Check.bookFault("pay max 3,5;", 1, 8);
        Check.bookFault("pay max(3);", 1, 9);
        Check.bookFault("pay max(3,5,7);", 1, 11);
        Check.bookFault("pay max(3,5;", 1, 11);
        Check.bookFault("pay max(3,);", 1, 10);
    }

    @Says(in = "Terms 1", words = "\"if\" \"(\" SUM \",\" SUM \",\" SUM \")\" (the first above 0: the second, else the third)")
    static void ifs() {
        paid("if(1,20,30)", 20);
        paid("if(0,20,30)", 30);
        paid("if(0-1,20,30)", 30);
        paid("if(65536*65536,20,30)", 20);
        paid("if(loss-99,hazard,crop)+if(loss-100,hazard,crop)", 9);
        paid("if(1,2,3)+if(0,4,5)*10", 52);
        Check.bookFault("pay if 1,2,3;", 1, 7);
        Check.bookFault("pay if(1,2);", 1, 10);
        Check.bookFault("pay if(1,2,3,4);", 1, 12);
        Check.bookFault("pay if(1,2,3;", 1, 12);
    }

    @Says(in = "Terms 1", words = "else the third) | \"(\" SUM \")\"")
    static void brackets() {
        paid("(42)", 42);
        paid("(2+3)*4", 20);
        paid("2*(3+4)", 14);
        paid("50-(20-10)", 40);
        paid("40/(4/2)", 20);
        paid("((1+2)*(3+4))", 21);
        // As deep as may be, with as much as there can be that waits.
        String deep = "5";
        for (int i = 0; i < 8; i++) {
            deep = "if(0,1,1+1*" + deep + ")";
        }
        paid("0+1*" + deep, 13);
        Check.bookFault("pay ();", 1, 5);
        Check.bookFault("pay (1;", 1, 6);
        Check.bookFault("pay (1,2);", 1, 6);
        Check.bookFault("pay 1);", 1, 5);
        Check.bookFault("pay (1)(2);", 1, 7);
    }

    @Says(in = "Terms 1", words = "From the left")
    static void fromTheLeft() {
        paid("50-20-10", 20);
        paid("50-20+10", 40);
        paid("40/4/2", 5);
        paid("40/4*2", 20);
        paid("7*3/2", 10);
        paid("3/2*7", 7);
        paid("90-2*3*4-20/5/2-1", 63);
    }

    @Says(in = "Terms 1", words = "longs that wrap")
    static void longsThatWrap() {
        paid("65536*65536*65536*65536+7", 7);
        paid("65536*65536/65536/6553", 10);
        paid("if(" + LEAST + ",1,2)", 2);
        paid("if(" + LEAST + "-1,1,2)", 1);
        paid("if((" + LEAST + ")-1+1,1,2)", 2);
        paid("if((" + LEAST + "-1)*2+3,1,2)", 1);
        paid("(" + LEAST + "-1)*2+9", 7);
        paid("if((" + LEAST + ")/(0-1),1,2)", 2);
        paid("max(" + LEAST + ",5)", 5);
        paid("min(" + LEAST + "-1,5)", 5);
        // What would be far above or below if it didn't wrap is 0 at least, LOST at most.
        paid(LEAST, 0);
        paid(LEAST + "-1", 100);
    }

    @Says(in = "Terms 1", words = "/ cut towards 0")
    static void cutTowardsZero() {
        paid("7/2", 3);
        paid("(0-7)/2+10", 7);
        paid("7/(0-2)+10", 7);
        paid("(0-7)/(0-2)", 3);
        paid("(0-1)/2+10", 10);
        paid("8/2", 4);
        paid("(0-8)/2+10", 6);
    }

    @Says(in = "Terms 1", words = "by 0 it is 0")
    static void byZero() {
        paid("7/0+5", 5);
        paid("0/0+5", 5);
        paid("(0-7)/0+5", 5);
        paid("7/(hazard-7)+5", 5);
        paid("7/0*9+5", 5);
        paid("7/years", 0);
    }
}
