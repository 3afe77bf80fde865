import java.nio.charset.StandardCharsets;

/** What all tests share: counting answers that are not due, and putting a text on THE TAPE. */
final class Check {
    private static int right = 0;
    private static int wrong = 0;

    private Check() {
    }

    static void due(String what, long got, long want) {
        if (got == want) {
            right++;
        } else {
            wrong++;
            System.out.println("  " + what + " answered " + got + ", due is " + want);
        }
    }

    static void due(String what, boolean got, boolean want) {
        due(what, got ? 1 : 0, want ? 1 : 0);
    }

    /** Ends a test's main. */
    static void close(String test) {
        System.out.println(test + ": " + right + " answers as due, " + wrong + " not");
        if (wrong != 0 || right == 0) {
            System.exit(1);
        }
    }

    /** Feeds behind what is on THE TAPE; the blanks of the last twenty bytes are taken away again. */
    static HailClub put(HailClub club, String text) {
        put(club, text.getBytes(StandardCharsets.ISO_8859_1));
        return club;
    }

    static void put(HailClub club, byte[] text) {
        int length = club.look(5);
        for (int at = 0; at < text.length; at += 20) {
            int[] n = new int[5];
            for (int i = 0; i < 20; i++) {
                int sign = at + i < text.length ? text[at + i] & 255 : ' ';
                n[i / 4] = n[i / 4] << 8 | sign;
            }
            club.feed(n[0], n[1], n[2], n[3], n[4]);
        }
        club.end(length + text.length);
    }

    static HailClub book(String text) {
        HailClub club = new HailClub();
        put(club, text);
        if (club.book() == HailClub.NONE) {
            due("a fault of \"" + text + "\" at " + club.fault(1), club.fault(0), 0);
        }
        return club;
    }

    static int join(HailClub club, String text) {
        put(club, text);
        return club.join();
    }

    /** A BOOK with this FAULT at this place, and all else as it was. */
    static void bookFault(String text, int fault, int place) {
        HailClub club = book("member old; field old 3 4 1 5 6; rate 77; pay 9;");
        club.storm(0, 0, 7, 7, 50);
        put(club, text);
        due("book of \"" + text + "\"", club.book(), -1);
        due("fault(0) of \"" + text + "\"", club.fault(0), fault);
        due("fault(1) of \"" + text + "\"", club.fault(1), place);
        due("TAPE after \"" + text + "\"", club.look(5), 0);
        due("MEMBERS after \"" + text + "\"", club.look(6), 1);
        due("RATE after \"" + text + "\"", club.club(0), 77);
        due("PAID after \"" + text + "\"", club.field(0, 8), 9);
        due("undo kept after \"" + text + "\"", club.look(4), 1);
    }

    /** A BOOK without FAULT. */
    static void bookFine(String text, int fields) {
        HailClub club = put(new HailClub(), text);
        due("book of \"" + text + "\"", club.book(), fields);
        due("fault(0) of \"" + text + "\"", club.fault(0), 0);
        due("fault(1) of \"" + text + "\"", club.fault(1), -1);
    }
}
