/** Promises 1 to 3 and 7: a new object, THE TAPE, a NAME on it. */
public final class TapeTest {
    public static void main(String[] args) {
        aNewObject();
        feedAddsTwentyBytes();
        feedTakesTheHighestByteFirst();
        feedStopsAtSevenHundred();
        endCuts();
        namedFindsWhoIsThere();
        namedWantsTheNameAlone();
        Check.close("TapeTest");
    }

    private static void aNewObject() {
        HailClub x = new HailClub();
        for (int what = 0; what <= 7; what++) {
            Check.due("new look(" + what + ")", x.look(what), 0);
        }
        long[] rules = {10, 0, 9999999, 0, 100, 4, 10, 0, 0, 0};
        for (int what = 0; what < rules.length; what++) {
            Check.due("new club(" + what + ")", x.club(what), rules[what]);
        }
        Check.due("new hazard", x.hazard(7, 7), 1);
        Check.due("new member", x.member(0, 0), -1);
        Check.due("new field", x.field(0, 0), -1);
        Check.due("new fault(0)", x.fault(0), 0);
        Check.due("new fault(1)", x.fault(1), -1);
        Check.due("new then", x.then(0, 0), Long.MIN_VALUE);
        Check.due("new undo", x.undo(), false);
        Check.due("NONE", HailClub.NONE, -1);
    }

    private static void feedAddsTwentyBytes() {
        HailClub x = new HailClub();
        Check.due("feed", x.feed(0, -1, Integer.MIN_VALUE, Integer.MAX_VALUE, 1), 20);
        Check.due("feed again", x.feed(0, 0, 0, 0, 0), 40);
        Check.due("bytes", x.look(5), 40);
        x.end(7);
        Check.due("feed behind seven", x.feed(0, 0, 0, 0, 0), 27);
    }

    private static void feedTakesTheHighestByteFirst() {
        HailClub x = new HailClub();
        // "rate 123;cap 45;go" "al"
        x.feed(0x72617465, 0x20313233, 0x3b636170, 0x2034353b, 0x676f616c);
        x.feed(0x2036373b, 0, 0, 0, 0);
        x.end(24);
        Check.due("book of bytes", x.book(), 0);
        Check.due("rate of bytes", x.club(0), 123);
        Check.due("cap of bytes", x.club(5), 45);
        Check.due("goal of bytes", x.club(6), 67);
    }

    private static void feedStopsAtSevenHundred() {
        HailClub x = new HailClub();
        for (int i = 1; i <= 35; i++) {
            Check.due("feed " + i, x.feed(0x20202020, 0x20202020, 0x20202020, 0x20202020, 0x20202020), 20 * i);
        }
        Check.due("feed 36", x.feed(1, 1, 1, 1, 1), -1);
        Check.due("bytes when full", x.look(5), 700);
        x.end(681);
        Check.due("feed behind 681", x.feed(1, 1, 1, 1, 1), -1);
        Check.due("bytes then", x.look(5), 681);
        x.end(680);
        Check.due("feed behind 680", x.feed(0x20202020, 0x20202020, 0x20202020, 0x20202020, 0x20202020), 700);
        Check.due("book of blanks", x.book(), 0);
        Check.due("bytes behind book", x.look(5), 0);
    }

    private static void endCuts() {
        HailClub x = new HailClub();
        Check.due("end(0) of nothing", x.end(0), true);
        Check.due("end(1) of nothing", x.end(1), false);
        x.feed(0, 0, 0, 0, 0);
        Check.due("end(21)", x.end(21), false);
        Check.due("end(-1)", x.end(-1), false);
        Check.due("end(least)", x.end(Integer.MIN_VALUE), false);
        Check.due("end(most)", x.end(Integer.MAX_VALUE), false);
        Check.due("bytes after wrong ends", x.look(5), 20);
        Check.due("end(20)", x.end(20), true);
        Check.due("end(3)", x.end(3), true);
        Check.due("bytes after end(3)", x.look(5), 3);
        Check.due("end(4)", x.end(4), false);
        Check.due("end(0)", x.end(0), true);
        Check.due("bytes after end(0)", x.look(5), 0);
        Check.put(x, "rate 5; strange");
        x.end(7);
        Check.due("book of the first bytes", x.book(), 0);
        Check.due("rate of the first bytes", x.club(0), 5);
    }

    private static int named(HailClub x, String text) {
        Check.put(x, text);
        int answer = x.named();
        Check.due("TAPE after named of \"" + text + "\"", x.look(5), 0);
        return answer;
    }

    private static void namedFindsWhoIsThere() {
        HailClub x = Check.book("member ann; member abcdefg; field ann 0 0 0 1 1;");
        Check.due("named ann", named(x, "ann"), 0);
        Check.due("named with blanks", named(x, " \n abcdefg \n"), 1);
        Check.due("named nobody", named(x, "bob"), -1);
        x.leave(0);
        Check.due("named that LEAVES", named(x, "ann"), 0);
        x.close();
        Check.due("named that is GONE", named(x, "ann"), -1);
        Check.due("named that stayed", named(x, "abcdefg"), 1);
        x.undo();
        Check.due("named that is back", named(x, "ann"), 0);
    }

    private static void namedWantsTheNameAlone() {
        HailClub x = Check.book("member ann; member a;");
        String[] wrong = {"", " ", "ann a", "a nn", "ann;", "ann1", "1", "abcdefgh", "annn", "Ann", "an", "loss", "ann\t"};
        for (String text : wrong) {
            Check.due("named \"" + text + "\"", named(x, text), -1);
        }
        Check.put(x, "!");
        x.book();
        Check.put(x, "a");
        x.named();
        Check.due("fault(0) behind named", x.fault(0), 1);
        Check.due("fault(1) behind named", x.fault(1), 0);
    }
}
