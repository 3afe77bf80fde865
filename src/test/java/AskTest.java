/** Promises 20 to 23, 25 and 26: what would be. */
public final class AskTest {
    private static final String UNEVEN = "member a;member b;field a 0 0 0 1 199;field b 1 0 1 10 100;rate 10;cap 1;goal 0;";

    public static void main(String[] args) {
        theWorstStorm();
        theWorstWithThoseThatWere();
        theWorstThatCannotBe();
        theLeastRate();
        theLeastReserve();
        withoutAnother();
        ranks();
        aloneByCrop();
        questionsChangeNothing();
        Check.close("AskTest");
    }

    private static void worst(HailClub x, int wide, int high, int strength, long... want) {
        for (int what = 0; what < 3; what++) {
            Check.due("worst(" + wide + ", " + high + ", " + strength + ", " + what + ")",
                x.worst(wide, high, strength, what), want[what]);
        }
    }

    private static void theWorstStorm() {
        HailClub x = Check.book("member a;field a 1 1 0 1 100;field a 3 2 0 1 100;field a 6 6 1 1 150;crop 1 50;");
        worst(x, 1, 1, 100, 1, 1, 100);
        worst(x, 3, 2, 100, 1, 1, 200);
        worst(x, 3, 3, 100, 1, 0, 200);
        worst(x, 8, 8, 100, 0, 0, 275);
        worst(x, 6, 6, 100, 1, 1, 275);
        worst(x, 1, 8, 100, 1, 0, 100);
        worst(x, 8, 1, 100, 0, 1, 100);
        worst(x, 1, 1, 7, 0, 0, 0);
        // Of several the first by y, then x.
        x = Check.book("member a;field a 0 5 0 1 100;field a 5 0 0 1 100;field a 7 0 0 1 100;");
        worst(x, 1, 1, 100, 5, 0, 100);
        worst(x, 2, 2, 50, 4, 0, 50);
        x = new HailClub();
        worst(x, 8, 8, 100, 0, 0, 0);
        worst(x, 1, 1, 1, 0, 0, 0);
    }

    private static void theWorstWithThoseThatWere() {
        HailClub x = Check.book("member a;field a 0 0 0 1 100;field a 5 5 0 1 90;");
        x.storm(0, 0, 0, 0, 80);
        worst(x, 1, 1, 50, 5, 5, 125);
        worst(x, 1, 1, 7, 0, 0, 87);
        // A law that pays less for more: the best of the bad is where nothing is.
        x = Check.book("member a;field a 0 0 0 1 100;field a 1 0 0 1 100;pay 100-loss;");
        x.storm(0, 0, 1, 0, 50);
        worst(x, 1, 1, 10, 2, 0, 100);
        worst(x, 8, 8, 10, 0, 0, 80);
        x.leave(0);
        x.close();
        worst(x, 1, 1, 10, 0, 0, 0);
    }

    private static void theWorstThatCannotBe() {
        HailClub x = Check.book("member a;field a 1 1 0 1 100;");
        int[][] wrong = {{0, 1, 1, 0}, {9, 1, 1, 0}, {1, 0, 1, 0}, {1, 9, 1, 0}, {1, 1, 0, 0}, {1, 1, 101, 0}, {1, 1, 1, -1},
            {1, 1, 1, 3}, {-1, 1, 1, 2}, {Integer.MAX_VALUE, 1, 1, 2}, {1, Integer.MIN_VALUE, 1, 2}};
        for (int[] w : wrong) {
            Check.due("worst(" + w[0] + ", " + w[1] + ", ..)", x.worst(w[0], w[1], w[2], w[3]), -1);
        }
        for (int i = 0; i < 15; i++) {
            x.storm(0, 0, 0, 0, 1);
        }
        worst(x, 1, 1, 100, 1, 1, 100);
        x.storm(0, 0, 0, 0, 1);
        worst(x, 1, 1, 100, -1, -1, -1);
    }

    private static void theLeastRate() {
        // NET 23; ADVANCES at RATE r: 199 r and 1000 r by 1000, each cut: at 19 3 and 19, at 20 3 and 20.
        HailClub x = Check.book(UNEVEN + "pay 2;");
        x.storm(0, 0, 7, 7, 100);
        Check.due("rate()", x.rate(), 20);
        x.set(0, 20);
        Check.due("CALLED at it", x.now(7), 0);
        x.set(0, 19);
        Check.due("CALLED below it", x.now(7), 1);
        Check.due("rate() at another RATE", x.rate(), 20);
        x = Check.book(UNEVEN + "pay 2;reserve 3;");
        x.storm(0, 0, 7, 7, 100);
        Check.due("rate() with a RESERVE", x.rate(), 19);
        x = Check.book(UNEVEN + "rate 900;");
        Check.due("rate() of a calm year", x.rate(), 0);
        x.storm(0, 0, 7, 7, 100);
        // NET 1199, at RATE 999 only 198 and 999.
        Check.due("rate() of none", x.rate(), -1);
        x = Check.book(UNEVEN + "reserve 4;");
        x.storm(0, 0, 7, 7, 100);
        Check.due("rate() at most", x.rate(), 999);
        Check.due("rate() of nobody", new HailClub().rate(), -1);
        x.leave(0);
        x.leave(1);
        x.close();
        Check.due("rate() of all GONE", x.rate(), -1);
        Check.due("reserve() of all GONE", x.reserve(), -1);
    }

    private static void theLeastReserve() {
        HailClub x = Check.book(UNEVEN + "pay 2;reserve 77;");
        Check.due("reserve() of a calm year", x.reserve(), 0);
        x.storm(0, 0, 7, 7, 100);
        Check.due("reserve()", x.reserve(), 24);
        x.set(0, 20);
        Check.due("reserve() with ADVANCES enough", x.reserve(), 0);
        x.set(0, 19);
        Check.due("reserve() with one short", x.reserve(), 2);
        Check.due("reserve() of nobody", new HailClub().reserve(), -1);
    }

    private static void withoutAnother() {
        HailClub x = Check.book(UNEVEN + "pay 2;");
        x.storm(0, 0, 7, 7, 100);
        // b alone: CLAIMS 20, ADVANCE 10, called for 10, nothing cut: 0; with a: -1. a alone: 3, 1, 1, cut 1: 0; with b: 1.
        Check.due("without(1, 0)", x.without(1, 0), 1);
        Check.due("without(0, 1)", x.without(0, 1), -1);
        Check.due("without(0, 0)", x.without(0, 0), Long.MIN_VALUE);
        Check.due("without(0, 2)", x.without(0, 2), Long.MIN_VALUE);
        Check.due("without(2, 0)", x.without(2, 0), Long.MIN_VALUE);
        Check.due("without(-1, 0)", x.without(-1, 0), Long.MIN_VALUE);
        Check.due("without(0, -1)", x.without(0, -1), Long.MIN_VALUE);
        x.leave(0);
        x.close();
        Check.due("without one GONE", x.without(1, 0), Long.MIN_VALUE);
        // One that LEAVES owes DUES in both; alone the part is all.
        x = Check.book("member a;member b;field a 0 0 0 10 100;field b 0 0 0 30 100;rate 0;reserve 20;");
        x.leave(0);
        Check.due("DUES with b", x.mine(0, 4), 76);
        Check.due("without, LEAVING", x.without(0, 1), 76 - 64);
    }

    private static void ranks() {
        HailClub x = Check.book("member a;member b;member c;member d;field a 0 0 0 10 100;field b 1 0 0 10 100;"
            + "field c 2 0 0 10 100;goal 0;pay 1;");
        x.storm(1, 0, 1, 0, 100);
        // BALANCES -3, 7, -4, 0.
        int[] order = {1, 3, 0, 2};
        for (int i = 0; i < order.length; i++) {
            Check.due("rank(" + i + ")", x.rank(i), order[i]);
        }
        Check.due("rank(4)", x.rank(4), -1);
        Check.due("rank(-1)", x.rank(-1), -1);
        Check.due("rank(least)", x.rank(Integer.MIN_VALUE), -1);
        x.undo();
        for (int i = 0; i < 4; i++) {
            Check.due("rank(" + i + ") of alike", x.rank(i), i);
        }
        x.leave(1);
        x.close();
        int[] rest = {0, 2, 3, -1};
        for (int i = 0; i < rest.length; i++) {
            Check.due("rank(" + i + ") with one GONE", x.rank(i), rest[i]);
        }
        Check.due("rank(0) of nobody", new HailClub().rank(0), -1);
    }

    private static void aloneByCrop() {
        HailClub x = Check.book("member a;member b;field a 0 0 0 1 100;field b 1 0 0 1 200;field a 2 0 1 1 100;"
            + "field a 5 5 1 1 100;crop 1 50;");
        x.storm(0, 0, 2, 0, 30);
        x.storm(1, 0, 7, 7, 90);
        x.storm(0, 0, 7, 7, 7);
        Check.due("alone(0, 0)", x.alone(0, 0), 90);
        Check.due("alone(0, 1)", x.alone(0, 1), 15);
        Check.due("alone(1, 0)", x.alone(1, 0), 180);
        Check.due("alone(1, 1)", x.alone(1, 1), 90);
        Check.due("alone(2, 0)", x.alone(2, 0), 0);
        Check.due("alone(0, 2)", x.alone(0, 2), 0);
        Check.due("alone(3, 0)", x.alone(3, 0), -1);
        Check.due("alone(-1, 0)", x.alone(-1, 0), -1);
        Check.due("alone(0, 4)", x.alone(0, 4), -1);
        Check.due("alone(0, -1)", x.alone(0, -1), -1);
        x.leave(1);
        x.close();
        Check.due("alone in the next YEAR", x.alone(0, 0), -1);
        x.storm(0, 0, 7, 7, 100);
        Check.due("alone with one GONE", x.alone(0, 0), 100);
        x = Check.book("member a;field a 0 0 0 1 100;field a 7 7 0 1 100;crop 0 200;pay loss/2+hazard;");
        x.storm(0, 0, 0, 0, 90);
        Check.due("alone by the law, 100 at most", x.alone(0, 0), 51);
        x = Check.book("member a;field a 0 0 0 1 100;crop 0 200;");
        x.storm(0, 0, 0, 0, 90);
        Check.due("alone, 100 at most", x.alone(0, 0), 100);
        worst(x, 1, 1, 90, 0, 0, 100);
    }

    private static void questionsChangeNothing() {
        HailClub x = Check.book(UNEVEN + "pay 2;reserve 5;");
        x.storm(0, 0, 7, 7, 100);
        x.leave(0);
        x.rate();
        x.reserve();
        x.worst(3, 3, 50, 2);
        x.without(0, 1);
        x.rank(0);
        x.alone(0, 0);
        Check.due("RATE", x.club(0), 10);
        Check.due("RESERVE", x.club(1), 5);
        Check.due("STORMS", x.look(2), 1);
        Check.due("there", x.look(0), 2);
        Check.due("kept", x.look(4), 2);
        Check.due("LOSSES", x.now(0), 23);
    }
}
