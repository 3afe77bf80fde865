import java.nio.charset.StandardCharsets;

/** What all tests share: counting answers that are not due, and putting a text on THE TAPE. */
final class Check {
    private static int right = 0;
    private static int wrong = 0;
    private static String about = "";

    private Check() {
    }

    /** What the next answers are about, told with each that is not due. */
    static void about(String what) {
        about = what + ": ";
    }

    static int count() {
        return right + wrong;
    }

    static void due(String what, long got, long want) {
        if (got == want) {
            right++;
        } else {
            wrong++;
            System.out.println("  " + about + what + " answered " + got + ", due is " + want);
        }
    }

    static void due(String what, boolean got, boolean want) {
        due(what, got ? 1 : 0, want ? 1 : 0);
    }

    /** Ends a test's main. */
    static void close(String test) {
        System.out.println(test + ": " + right + " answers as due, " + wrong + " not");
        if (wrong != 0 || right == 0) {
            System.exit(1);
        }
    }

    /** Feeds behind what is on THE TAPE; the blanks of the last twenty bytes are taken away again. */
    static HailClub put(HailClub club, String text) {
        put(club, text.getBytes(StandardCharsets.ISO_8859_1));
        return club;
    }

    static void put(HailClub club, byte[] text) {
        int length = club.look(5);
        for (int at = 0; at < text.length; at += 20) {
            int[] n = new int[5];
            for (int i = 0; i < 20; i++) {
                int sign = at + i < text.length ? text[at + i] & 255 : ' ';
                n[i / 4] = n[i / 4] << 8 | sign;
            }
            club.feed(n[0], n[1], n[2], n[3], n[4]);
        }
        club.end(length + text.length);
    }

    static HailClub book(String text) {
        HailClub club = new HailClub();
        put(club, text);
        if (club.book() == HailClub.NONE) {
            due("a fault of \"" + text + "\" at " + club.fault(1), club.fault(0), 0);
        }
        return club;
    }

    static int join(HailClub club, String text) {
        put(club, text);
        return club.join();
    }

    /** now(0), now(1) and so on, as many as are told. */
    static void now(HailClub x, long... want) {
        for (int what = 0; what < want.length; what++) {
            due("now(" + what + ")", x.now(what), want[what]);
        }
    }

    /** mine(member, 0), mine(member, 1) and so on. */
    static void mine(HailClub x, int member, long... want) {
        for (int what = 0; what < want.length; what++) {
            due("mine(" + member + ", " + what + ")", x.mine(member, what), want[what]);
        }
    }

    /** mine(0, what), mine(1, what) and so on. */
    static void each(HailClub x, int what, long... want) {
        for (int member = 0; member < want.length; member++) {
            due("mine(" + member + ", " + what + ")", x.mine(member, what), want[member]);
        }
    }

    /** What the club answers to all questions about what undo() can bring back, of the first three of a kind. */
    static String all(HailClub x) {
        StringBuilder text = new StringBuilder();
        for (int i = 0; i < 11; i++) {
            text.append(x.club(i)).append(' ').append(x.now(i)).append(' ');
            text.append(i == 5 ? 0 : x.look(i)).append(' ').append(x.hazard(i % 8, i / 2)).append(' ');
            for (int number = 0; number < 3; number++) {
                text.append(x.field(number, i)).append(' ').append(i < 8 ? x.member(number, i) : 0).append(' ');
                text.append(i < 6 ? x.mine(number, i) : 0).append(' ').append(i < 6 ? x.then(number, i) : 0).append(' ');
            }
            text.append(i < 3 ? x.alone(i, 0) : 0).append(' ');
            text.append(i < 8 ? x.near(i, i) : 0).append(' ').append(i < 4 ? x.rank(i) : 0).append('\n');
        }
        for (int what = 0; what < 3; what++) {
            text.append(x.worst(1, 1, 50, what)).append(' ');
        }
        text.append(x.rate()).append(' ').append(x.reserve()).append(' ').append(x.without(0, 1));
        return text.toString();
    }

    /** A join with this FAULT at this place. */
    static void joinFault(HailClub x, String text, int fault, int place) {
        due("join of \"" + text + "\"", join(x, text), -1);
        due("fault(0) of \"" + text + "\"", x.fault(0), fault);
        due("fault(1) of \"" + text + "\"", x.fault(1), place);
    }

    /** A BOOK with this FAULT at this place, and all else as it was. */
    static void bookFault(String text, int fault, int place) {
        HailClub club = book("member old; field old 3 4 1 5 6; rate 77; pay 9;");
        club.storm(0, 0, 7, 7, 50);
        put(club, text);
        due("book of \"" + text + "\"", club.book(), -1);
        due("fault(0) of \"" + text + "\"", club.fault(0), fault);
        due("fault(1) of \"" + text + "\"", club.fault(1), place);
        due("TAPE after \"" + text + "\"", club.look(5), 0);
        due("MEMBERS after \"" + text + "\"", club.look(6), 1);
        due("RATE after \"" + text + "\"", club.club(0), 77);
        due("PAID after \"" + text + "\"", club.field(0, 8), 9);
        due("undo kept after \"" + text + "\"", club.look(4), 1);
    }

    /** A BOOK without FAULT. */
    static void bookFine(String text, int fields) {
        HailClub club = put(new HailClub(), text);
        due("book of \"" + text + "\"", club.book(), fields);
        due("fault(0) of \"" + text + "\"", club.fault(0), 0);
        due("fault(1) of \"" + text + "\"", club.fault(1), -1);
    }
}
