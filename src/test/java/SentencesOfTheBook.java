/** Terms 1, A BOOK, its LINES, and what WORDS, NAMES and Ns are. */
final class SentencesOfTheBook {
    private SentencesOfTheBook() {
    }

    @Says(in = "Terms 1", words = "A BOOK is a TEXT on THE TAPE (700 bytes)")
    static void sevenHundredBytes() {
        HailClub x = Check.put(new HailClub(), " ".repeat(693) + "rate 5;");
        Check.due("bytes", x.look(5), 700);
        Check.due("book", x.book(), 0);
        Check.due("RATE", x.club(0), 5);
        Check.put(x, " ".repeat(694) + "rate 5");
        Check.due("book without its last byte", x.book(), -1);
        Check.due("its FAULT", x.fault(0), 1);
        Check.due("its place", x.fault(1), 700);
        // A law as long as there is place for, and one byte more of it.
        String law = "member a;field a 0 0 0 1 1;pay 0" + "+1-1".repeat(166) + "+9";
        Check.put(x, law + ";");
        Check.due("bytes of the law", x.look(5), 699);
        Check.due("book of the law", x.book(), 1);
        x.storm(0, 0, 0, 0, 100);
        Check.due("PAID", x.field(0, 8), 9);
        Check.put(x, law + "9;");
        Check.due("book of a byte more", x.book(), 1);
        x.storm(0, 0, 0, 0, 100);
        Check.due("PAID then", x.field(0, 8), 99);
        // What stood on THE TAPE before is no part of it.
        Check.put(x, "rate 6; rate 7;");
        x.end(7);
        Check.due("book of what is on THE TAPE", x.book(), 0);
        Check.due("RATE then", x.club(0), 6);
    }

    @Says(in = "Terms 1", words = "in place of all")
    static void inPlaceOfAll() {
        HailClub x = Check.book("member a;member b;field a 0 0 0 9 9;hazard 0 0 7 7 5;crop 0 7;rate 11;reserve 12;"
            + "retain 13;cover 14 15;cap 16;goal 17;pay 1;");
        x.leave(0);
        // One that does not JOIN leaves nothing behind either.
        Check.join(x, "d 1 1 1 1 1!");
        Check.put(x, "member c;field c 0 0 0 1 50;");
        Check.due("book", x.book(), 1);
        Check.due("MEMBERS in all", x.look(6), 1);
        Check.due("FIELDS in all", x.look(7), 1);
        Check.due("LEAVES", x.member(0, 1), 0);
        Check.due("VALUE", x.field(0, 5), 50);
        Check.due("hazard", x.hazard(0, 0), 1);
        long[] club = {10, 0, 9999999, 0, 100, 4, 10};
        for (int what = 0; what < club.length; what++) {
            Check.due("club(" + what + ")", x.club(what), club[what]);
        }
        x.storm(0, 0, 0, 0, 60);
        Check.due("LOST", x.field(0, 7), 60);
        Check.due("PAID without a law", x.field(0, 8), 60);
        Check.put(x, "a");
        Check.due("named that was", x.named(), -1);
    }

    @Says(in = "Terms 1", words = "{ LINE \";\" }")
    static void lines() {
        Check.bookFine("", 0);
        Check.bookFine("rate 5;", 0);
        Check.bookFine("rate 5;cap 6;", 0);
        Check.bookFault("rate 5", 1, 6);
        Check.bookFault("rate 5 cap 6;", 1, 7);
        Check.bookFault("rate 5,cap 6;", 1, 6);
        Check.bookFault(";", 1, 0);
        Check.bookFault("rate 5;;", 1, 7);
        HailClub x = Check.book("cap 9;rate 5;rate 6;");
        Check.due("RATE of the last LINE", x.club(0), 6);
        Check.due("CAP of the first LINE", x.club(5), 9);
    }

    @Says(in = "Terms 1", words = "LINE: \"member\" NAME")
    static void memberLine() {
        HailClub x = Check.book("member ann;");
        Check.due("MEMBERS", x.look(0), 1);
        Check.put(x, "ann");
        Check.due("named", x.named(), 0);
        Check.bookFault("member;", 1, 6);
        Check.bookFault("member 5;", 1, 7);
        Check.bookFault("member ann bob;", 1, 11);
        Check.bookFault("member ann 5;", 1, 11);
    }

    @Says(in = "Terms 1", words = "\"field\" NAME N N N N N (of whom, x, y, CROP, AREA, VALUE: six)")
    static void fieldLine() {
        HailClub x = Check.book("member ann;member bob;field bob 1 2 3 4 5;");
        long[] want = {1, 1, 2, 3, 4, 5};
        for (int what = 0; what < want.length; what++) {
            Check.due("field(0, " + what + ")", x.field(0, what), want[what]);
        }
        Check.bookFault("member ann;field;", 1, 16);
        Check.bookFault("member ann;field 1 2 3 4 5;", 1, 17);
        Check.bookFault("member ann;field ann;", 1, 20);
        Check.bookFault("member ann;field ann 1 2 3 4;", 1, 28);
        Check.bookFault("member ann;field ann 1 2 3 4 5 6;", 1, 31);
        Check.bookFault("member ann;field ann 1 2 ann 4 5;", 1, 25);
    }

    @Says(in = "Terms 1", words = "\"hazard\" N N N N N (x, y to x, y, rising or alike: HAZARD of all these)")
    static void hazardLine() {
        HailClub x = Check.book("hazard 1 2 3 5 7;hazard 6 6 6 6 8;hazard 3 5 4 5 2;");
        for (int cell = 0; cell < 64; cell++) {
            int cx = cell % 8;
            int cy = cell / 8;
            boolean in = cx >= 1 && cx <= 3 && cy >= 2 && cy <= 5;
            int want = cy == 5 && (cx == 3 || cx == 4) ? 2 : in ? 7 : cx == 6 && cy == 6 ? 8 : 1;
            Check.due("hazard(" + cx + ", " + cy + ")", x.hazard(cx, cy), want);
        }
        Check.bookFine("hazard 0 0 7 7 1;hazard 7 7 7 7 1;hazard 3 4 3 4 1;", 0);
        Check.bookFault("hazard 4 0 3 0 1;", 4, 11);
        Check.bookFault("hazard 0 4 0 3 1;", 4, 13);
        Check.bookFault("hazard 1 2 3 5;", 1, 14);
        Check.bookFault("hazard 1 2 3 5 7 7;", 1, 17);
    }

    @Says(in = "Terms 1", words = "\"crop\" N N (SOFT)")
    static void cropLine() {
        HailClub x = Check.book("member a;field a 0 0 1 1 1;field a 0 0 2 1 1;crop 2 30;");
        x.storm(0, 0, 0, 0, 100);
        Check.due("LOST of another CROP", x.field(0, 7), 100);
        Check.due("LOST of the CROP", x.field(1, 7), 30);
        Check.bookFault("crop;", 1, 4);
        Check.bookFault("crop 2;", 1, 6);
        Check.bookFault("crop 2 30 4;", 1, 10);
    }

    /** A LINE of one N: what club() tells of it; none, or two, can't stand there. */
    private static void oneNumber(String word, int what) {
        int length = word.length();
        Check.due(word, Check.book(word + " 37;").club(what), 37);
        Check.bookFault(word + ";", 1, length);
        Check.bookFault(word + " a;", 1, length + 1);
        Check.bookFault(word + " 37 38;", 1, length + 4);
    }

    @Says(in = "Terms 1", words = "\"rate\" N")
    static void rateLine() {
        oneNumber("rate", 0);
    }

    @Says(in = "Terms 1", words = "\"reserve\" N")
    static void reserveLine() {
        oneNumber("reserve", 1);
    }

    @Says(in = "Terms 1", words = "\"retain\" N")
    static void retainLine() {
        oneNumber("retain", 2);
    }

    @Says(in = "Terms 1", words = "\"cover\" N N (COVER, BY)")
    static void coverLine() {
        HailClub x = Check.book("cover 37 38;");
        Check.due("COVER", x.club(3), 37);
        Check.due("BY", x.club(4), 38);
        Check.bookFault("cover;", 1, 5);
        Check.bookFault("cover 37;", 1, 8);
        Check.bookFault("cover 37 38 39;", 1, 12);
        Check.bookFault("cover 10000000 38;", 4, 6);
        Check.bookFault("cover 37 101;", 4, 9);
    }

    @Says(in = "Terms 1", words = "\"cap\" N")
    static void capLine() {
        oneNumber("cap", 5);
    }

    @Says(in = "Terms 1", words = "\"goal\" N")
    static void goalLine() {
        oneNumber("goal", 6);
    }

    @Says(in = "Terms 1", words = "\"pay\" SUM")
    static void payLine() {
        HailClub x = Check.book("pay 3 + 4;member a;field a 0 0 0 1 1;");
        x.storm(0, 0, 0, 0, 100);
        Check.due("PAID", x.field(0, 8), 7);
        Check.bookFault("pay;", 1, 3);
        Check.bookFault("pay 3 4;", 1, 6);
        Check.bookFault("pay pay 3;", 1, 4);
    }

    @Says(in = "Terms 1", words = "WORDS: letters a .. z that stand together")
    static void words() {
        Check.bookFine("member az;field az 0 0 0 1 1;", 1);
        Check.bookFine("rate5;", 0);
        Check.bookFault("mem ber az;", 1, 0);
        Check.bookFault("memberaz;", 1, 0);
        Check.bookFault("rates 5;", 1, 0);
        Check.bookFault("Rate 5;", 1, 0);
        Check.bookFault("raTe 5;", 1, 0);
        Check.bookFault("member aZ;", 1, 8);
        Check.bookFault("member A;", 1, 7);
        // The signs ahead of a and behind z.
        Check.bookFault("member a`;", 1, 8);
        Check.bookFault("member `;", 1, 7);
        Check.bookFault("member z{;", 1, 8);
        Check.bookFault("member {;", 1, 7);
        Check.bookFault("member \u00e9;", 1, 7);
    }

    @Says(in = "Terms 1", words = "NAMES: WORDS of 1 to 7")
    static void namesOfOneToSeven() {
        Check.bookFine("member a;field a 0 0 0 1 1;", 1);
        Check.bookFine("member abcdefg;field abcdefg 0 0 0 1 1;", 1);
        Check.bookFault("member abcdefgh;", 1, 7);
        Check.bookFault("member a;field abcdefgh 0 0 0 1 1;", 1, 15);
        Check.bookFault("member ;", 1, 7);
        HailClub x = new HailClub();
        Check.due("join of seven letters", Check.join(x, "zzzzzzz"), 0);
        Check.joinFault(x, "zzzzzzzz", 1, 0);
        // Seven letters are told apart by each of them.
        Check.bookFine("member abcdefg;member bbcdefg;member abcdefh;member abcdef;member bcdefg;", 0);
    }

    @Says(in = "Terms 1", words = "that are none of those in quotes, nor join, leave")
    static void namesThatAreTaken() {
        String[] taken = {"member", "field", "hazard", "crop", "rate", "reserve", "retain", "cover", "cap", "goal",
            "pay", "loss", "years", "min", "max", "if", "join", "leave"};
        for (String word : taken) {
            Check.bookFault("member " + word + ";", 1, 7);
            Check.bookFault("member a;field " + word + " 0 0 0 1 1;", 1, 15);
            Check.joinFault(new HailClub(), word, 1, 0);
        }
        String[] free = {"storm", "close", "undo", "by", "soft", "area", "value", "sum", "joins", "lea", "i", "payx"};
        for (String word : free) {
            Check.bookFine("member " + word + ";field " + word + " 0 0 0 1 1;", 1);
            Check.due("join of " + word, Check.join(new HailClub(), word), 0);
        }
    }

    @Says(in = "Terms 1", words = "N: 1 to 8 digits that stand together")
    static void numbers() {
        Check.due("one digit", Check.book("reserve 9;").club(1), 9);
        Check.due("eight digits", Check.book("reserve 12345678;").club(1), 12345678);
        Check.due("eight digits for 5", Check.book("rate 00000005;").club(0), 5);
        Check.due("all digits", Check.book("reserve 98765432;").club(1), 98765432);
        Check.due("the others", Check.book("reserve 10;").club(1), 10);
        Check.bookFault("rate 000000005;", 1, 5);
        Check.bookFault("reserve 123456789;", 1, 8);
        Check.bookFault("reserve 18446744073709551617;", 1, 8);
        Check.bookFault("rate 1 2;", 1, 7);
        Check.bookFault("rate -1;", 1, 5);
        Check.bookFault("rate +1;", 1, 5);
        // The signs ahead of 0 and behind 9.
        Check.bookFault("rate 1/;", 1, 6);
        Check.bookFault("rate 1:;", 1, 6);
        Check.bookFault("rate :;", 1, 5);
    }

    @Says(in = "Terms 1", words = "Blanks (32, 10) between where one likes")
    static void blanks() {
        Check.due("none", Check.book("rate5;cap3;").club(0), 5);
        Check.due("many", Check.book("  \n rate \n\n 5  ; \n cap\n3\n;\n ").club(0), 5);
        HailClub x = Check.book("member a;field a0 0 0 1 1;pay(1+ 2 )*\nmin ( 3,4 ) ;");
        x.storm(0, 0, 0, 0, 100);
        Check.due("PAID", x.field(0, 8), 9);
        Check.bookFault("rate\t5;", 1, 4);
        Check.bookFault("rate\r5;", 1, 4);
        Check.bookFault("rate\0005;", 1, 4);
        Check.bookFault("rate\u000b5;", 1, 4);
        Check.bookFault("rate!5;", 1, 4);
        Check.bookFault("rate\u00a05;", 1, 4);
        Check.bookFault("rate\u008a5;", 1, 4);
        Check.bookFault("rate 5;\t", 1, 7);
    }
}
