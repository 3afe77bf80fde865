/** Terms 1, THE MAP to THE CLUB. */
final class SentencesOfTheMap {
    private SentencesOfTheMap() {
    }

    @Says(in = "Terms 1", words = "THE MAP has CELLS x, y 0 .. 7")
    static void cells() {
        HailClub x = new HailClub();
        for (int cx = -1; cx <= 8; cx++) {
            for (int cy = -1; cy <= 8; cy++) {
                boolean is = cx >= 0 && cx <= 7 && cy >= 0 && cy <= 7;
                Check.due("hazard(" + cx + ", " + cy + ")", x.hazard(cx, cy), is ? 1 : -1);
            }
        }
        Check.bookFine("member a;field a 0 0 0 1 1;field a 7 7 0 1 1;field a 0 7 0 1 1;field a 7 0 0 1 1;", 4);
        Check.bookFault("member a;field a 8 0 0 1 1;", 4, 17);
        Check.bookFault("member a;field a 0 8 0 1 1;", 4, 19);
    }

    @Says(in = "Terms 1", words = "each a HAZARD 1 .. 9")
    static void hazards() {
        for (int h = 1; h <= 9; h++) {
            Check.due("hazard " + h, Check.book("hazard 2 3 2 3 " + h + ";").hazard(2, 3), h);
        }
        Check.bookFault("hazard 2 3 2 3 0;", 4, 15);
        Check.bookFault("hazard 2 3 2 3 10;", 4, 15);
    }

    @Says(in = "Terms 1", words = "(1 at first)")
    static void hazardsAtFirst() {
        HailClub x = new HailClub();
        HailClub y = Check.book("hazard 0 0 7 7 9;");
        Check.put(y, "hazard 0 0 0 0 5;");
        y.book();
        for (int cell = 0; cell < 64; cell++) {
            Check.due("hazard of a new object", x.hazard(cell % 8, cell / 8), 1);
            Check.due("hazard of a new BOOK", y.hazard(cell % 8, cell / 8), cell == 0 ? 5 : 1);
        }
    }

    @Says(in = "Terms 1", words = "CROPS 0 .. 3")
    static void crops() {
        HailClub x = Check.book("member a;field a 0 0 0 1 1;field a 0 0 1 1 1;field a 0 0 2 1 1;field a 0 0 3 1 1;");
        for (int crop = 0; crop <= 3; crop++) {
            Check.due("CROP of FIELD " + crop, x.field(crop, 3), crop);
            Check.bookFine("crop " + crop + " 100;", 0);
        }
        Check.bookFault("member a;field a 0 0 4 1 1;", 4, 21);
        Check.bookFault("crop 4 100;", 4, 5);
        x.storm(0, 0, 0, 0, 1);
        Check.due("alone(0, 3)", x.alone(0, 3), 0);
        Check.due("alone(0, 4)", x.alone(0, 4), -1);
    }

    @Says(in = "Terms 1", words = "have SOFT 0 .. 200")
    static void softs() {
        int[] softs = {0, 1, 199, 200};
        for (int soft : softs) {
            HailClub x = Check.book("member a;field a 0 0 2 1 1;crop 2 " + soft + ";");
            x.storm(0, 0, 0, 0, 50);
            Check.due("LOST by SOFT " + soft, x.field(0, 7), soft / 2);
        }
        Check.bookFault("crop 2 201;", 4, 7);
    }

    @Says(in = "Terms 1", words = "(100 at first)")
    static void softsAtFirst() {
        String fields = "member a;field a 0 0 0 1 1;field a 0 0 1 1 1;field a 0 0 2 1 1;field a 0 0 3 1 1;";
        HailClub x = Check.book("crop 0 1;crop 1 2;crop 2 3;crop 3 4;");
        Check.put(x, fields);
        x.book();
        x.storm(0, 0, 0, 0, 37);
        for (int field = 0; field < 4; field++) {
            Check.due("LOST of CROP " + field, x.field(field, 7), 37);
        }
    }

    static String members(int count) {
        StringBuilder text = new StringBuilder();
        for (int i = 0; i < count; i++) {
            text.append("member m").append((char) ('a' + i)).append(';');
        }
        return text.toString();
    }

    @Says(in = "Terms 1", words = "MEMBERS 0 .. 11")
    static void twelveMembers() {
        HailClub x = Check.book(members(12));
        Check.due("MEMBERS", x.look(0), 12);
        Check.due("member(-1, 0)", x.member(-1, 0), -1);
        Check.due("member(0, 0)", x.member(0, 0), 1);
        Check.due("member(11, 0)", x.member(11, 0), 1);
        Check.due("member(12, 0)", x.member(12, 0), -1);
        Check.bookFault(members(13), 5, 120);
    }

    @Says(in = "Terms 1", words = "and FIELDS 0 .. 23")
    static void twentyFourFields() {
        HailClub x = Check.book("member m;" + "field m 1 2 3 4 5;".repeat(24));
        Check.due("FIELDS", x.look(1), 24);
        Check.due("field(-1, 5)", x.field(-1, 5), -1);
        Check.due("field(0, 5)", x.field(0, 5), 5);
        Check.due("field(23, 5)", x.field(23, 5), 5);
        Check.due("field(24, 5)", x.field(24, 5), -1);
        Check.bookFault("member m;" + "field m 1 2 3 4 5;".repeat(25), 5, 9 + 24 * 18);
    }

    @Says(in = "Terms 1", words = "are numbered as they come")
    static void numbered() {
        HailClub x = Check.book("member b;member a;field a 1 0 0 1 1;member c;field c 2 0 0 1 1;field b 3 0 0 1 1;");
        Check.join(x, "aa 4 0 0 1 1 5 0 0 1 1");
        String[] names = {"b", "a", "c", "aa"};
        for (int member = 0; member < names.length; member++) {
            Check.put(x, names[member]);
            Check.due("number of " + names[member], x.named(), member);
        }
        int[] owners = {1, 2, 0, 3, 3};
        for (int field = 0; field < owners.length; field++) {
            Check.due("MEMBER of FIELD " + field, x.field(field, 0), owners[field]);
            Check.due("x of FIELD " + field, x.field(field, 1), field + 1);
        }
    }

    @Says(in = "Terms 1", words = "those that are gone keep their numbers")
    static void goneKeepTheirNumbers() {
        HailClub x = Check.book("member a;member b;member c;field b 1 0 0 1 1;field a 2 0 0 1 1;field c 3 0 0 1 1;");
        x.leave(0);
        x.leave(1);
        x.close();
        Check.join(x, "d 4 0 0 1 1");
        long[] there = {0, 0, 1, 1};
        long[] owners = {1, 0, 2, 3};
        for (int i = 0; i < 4; i++) {
            Check.due("MEMBER " + i + " is there", x.member(i, 0), there[i]);
            Check.due("MEMBER of FIELD " + i, x.field(i, 0), owners[i]);
            Check.due("x of FIELD " + i, x.field(i, 1), i + 1);
        }
        Check.put(x, "c");
        Check.due("number of c", x.named(), 2);
        Check.put(x, "d");
        Check.due("number of d", x.named(), 3);
    }

    @Says(in = "Terms 1", words = "A FIELD: of a MEMBER, in a CELL, with a CROP")
    static void field() {
        HailClub x = Check.book("member a;member b;field b 6 5 3 1 1;");
        long[] want = {1, 6, 5, 3};
        for (int what = 0; what < want.length; what++) {
            Check.due("field(0, " + what + ")", x.field(0, what), want[what]);
        }
    }

    @Says(in = "Terms 1", words = "an AREA 1 .. 99")
    static void areas() {
        HailClub x = Check.book("member a;field a 0 0 0 1 5;field a 0 0 0 99 5;");
        Check.due("the least AREA", x.field(0, 4), 1);
        Check.due("the most AREA", x.field(1, 4), 99);
        Check.bookFault("member a;field a 0 0 0 0 5;", 4, 23);
        Check.bookFault("member a;field a 0 0 0 100 5;", 4, 23);
        Check.joinFault(x, "b 0 0 0 0 5", 4, 8);
        Check.joinFault(x, "b 0 0 0 100 5", 4, 8);
    }

    @Says(in = "Terms 1", words = "a VALUE 1 .. 999")
    static void values() {
        HailClub x = Check.book("member a;field a 0 0 0 5 1;field a 0 0 0 5 999;");
        Check.due("the least VALUE", x.field(0, 5), 1);
        Check.due("the most VALUE", x.field(1, 5), 999);
        Check.bookFault("member a;field a 0 0 0 5 0;", 4, 25);
        Check.bookFault("member a;field a 0 0 0 5 1000;", 4, 25);
        Check.joinFault(x, "b 0 0 0 5 0", 4, 10);
        Check.joinFault(x, "b 0 0 0 5 1000", 4, 10);
    }

    @Says(in = "Terms 1", words = "its SUM is AREA times VALUE")
    static void sumOfAField() {
        HailClub x = Check.book("member a;member b;field a 0 0 0 99 999;field b 1 0 0 7 11;hazard 0 0 7 7 9;");
        Check.due("the greatest SUM", x.member(0, 4), 98901);
        Check.due("SUM of 7 times 11", x.member(1, 4), 77);
        Check.due("all SUMS", x.club(8), 98978);
    }

    @Says(in = "Terms 1", words = "its POINTS SUM times the HAZARD of its CELL")
    static void pointsOfAField() {
        HailClub x = Check.book("member a;member b;field a 2 3 0 99 999;field b 3 2 0 7 11;hazard 2 3 2 3 9;"
            + "hazard 3 2 3 2 4;");
        Check.due("the most POINTS", x.member(0, 5), 890109);
        Check.due("POINTS at HAZARD 4", x.member(1, 5), 308);
    }

    @Says(in = "Terms 1", words = "POINTS of a MEMBER: of all its FIELDS that are there.")
    static void pointsOfAMember() {
        HailClub x = Check.book("member a;member b;field a 0 0 0 1 10;field b 0 0 0 1 20;field a 1 0 0 1 30;"
            + "hazard 1 0 1 0 5;");
        Check.due("POINTS of a", x.member(0, 5), 160);
        Check.due("POINTS of b", x.member(1, 5), 20);
        x.leave(0);
        Check.due("POINTS of a that LEAVES", x.member(0, 5), 160);
        x.close();
        Check.due("POINTS of a that is GONE", x.member(0, 5), 0);
        Check.due("POINTS of b then", x.member(1, 5), 20);
        Check.due("all POINTS then", x.club(9), 20);
    }

    /** What club() tells at first, and of a BOOK with the least and the most; one more than the most can't be. */
    private static void rule(int what, String line, String behind, long first, long most) {
        Check.due("at first", new HailClub().club(what), first);
        Check.due("of an empty BOOK", Check.book("").club(what), first);
        Check.due(line + "0", Check.book(line + "0" + behind).club(what), 0);
        Check.due(line + most, Check.book(line + most + behind).club(what), most);
        // One more of the RESERVE is an N that is too long.
        Check.bookFault(line + (most + 1) + behind, what == 1 ? 1 : 4, line.length());
    }

    @Says(in = "Terms 1", words = "THE CLUB: RATE 0 .. 999 (10 at first)")
    static void rate() {
        rule(0, "rate ", ";", 10, 999);
    }

    @Says(in = "Terms 1", words = "RESERVE 0 .. 99999999 (0)")
    static void reserve() {
        rule(1, "reserve ", ";", 0, 99999999);
    }

    @Says(in = "Terms 1", words = "RETAIN 0 .. 9999999 (9999999)")
    static void retain() {
        rule(2, "retain ", ";", 9999999, 9999999);
    }

    @Says(in = "Terms 1", words = "COVER 0 .. 9999999 (0)")
    static void cover() {
        rule(3, "cover ", " 5;", 0, 9999999);
    }

    @Says(in = "Terms 1", words = "and BY 0 .. 100 (100)")
    static void by() {
        rule(4, "cover 5 ", ";", 100, 100);
    }

    @Says(in = "Terms 1", words = "CAP 0 .. 99 (4)")
    static void cap() {
        rule(5, "cap ", ";", 4, 99);
    }

    @Says(in = "Terms 1", words = "GOAL 0 .. 100 (10).")
    static void goal() {
        rule(6, "goal ", ";", 10, 100);
    }
}
