/** An object's use, and promise 1. */
final class SentencesOfCalls {
    private SentencesOfCalls() {
    }

    @Says(in = "Use", words = "An object is used for at most 512 calls after it has been made; what later calls answer is free.")
    static void fiveHundredTwelveCalls() {
        HailClub x = new HailClub();
        for (int call = 1; call <= 512; call += 2) {
            Check.due("call " + call, x.set(0, call), true);
            Check.due("call " + (call + 1), x.club(0), call);
        }
        HailClub years = new HailClub();
        // "a" and blanks; then join, 506 times close, and three questions: 511 calls and one more.
        years.feed(0x61202020, 0x20202020, 0x20202020, 0x20202020, 0x20202020);
        years.join();
        for (int call = 3; call <= 508; call++) {
            years.close();
        }
        Check.due("YEAR", years.look(3), 506);
        Check.due("YEARS", years.member(0, 2), 506);
        Check.due("BALANCE", years.then(0, 5), 0);
        Check.due("the 512th call", years.look(4), 8);
        HailClub tape = new HailClub();
        for (int call = 1; call <= 512; call += 2) {
            Check.due("feed", tape.feed(1, 2, 3, 4, 5), 20);
            Check.due("end", tape.end(0), true);
        }
    }

    @Says(in = "Promise 1", words = "Nobody is there.")
    static void nobodyIsThere() {
        HailClub x = new HailClub();
        for (int what = 0; what <= 7; what++) {
            Check.due("look(" + what + ")", x.look(what), 0);
        }
        for (int number = 0; number < 24; number++) {
            Check.due("member(" + number + ", 0)", x.member(number, 0), -1);
            Check.due("field(" + number + ", 0)", x.field(number, 0), -1);
        }
        long[] club = {10, 0, 9999999, 0, 100, 4, 10, 0, 0, 0};
        for (int what = 0; what < club.length; what++) {
            Check.due("club(" + what + ")", x.club(what), club[what]);
        }
        Check.due("now(0)", x.now(0), -1);
        Check.due("mine(0, 0)", x.mine(0, 0), Long.MIN_VALUE);
        Check.due("then(0, 0)", x.then(0, 0), Long.MIN_VALUE);
        Check.due("rank(0)", x.rank(0), -1);
        Check.due("near(0, 0)", x.near(0, 0), 0);
        Check.due("fault(0)", x.fault(0), 0);
        Check.due("fault(1)", x.fault(1), -1);
        Check.due("leave(0)", x.leave(0), false);
        Check.due("close()", x.close(), -1);
        Check.due("undo()", x.undo(), false);
        // Objects have nothing in common.
        HailClub y = Check.book("member a;rate 99;");
        Check.due("RATE of another", new HailClub().club(0), 10);
        Check.due("MEMBERS of another", new HailClub().look(0), 0);
        Check.due("RATE of this", y.club(0), 99);
    }
}
