/** Every call with wild numbers in every kind of state: none may throw, and what is not done changes nothing. */
public final class WildTest {
    private static final int[] WILD = {Integer.MIN_VALUE, -2, -1, 0, 1, 2, 7, 8, 12, 16, 24, 100, 700, Integer.MAX_VALUE};

    public static void main(String[] args) {
        String[] books = {"", "member a;", "member a;member b;field a 0 0 0 1 1;pay 1/loss*0-99999999;",
            "member a;member b;member c;field a 7 7 3 99 999;field b 0 0 0 99 999;hazard 0 0 7 7 9;crop 3 200;rate 999;"
                + "reserve 99999999;cap 99;goal 100;retain 0;cover 9999999 100;"};
        for (String book : books) {
            HailClub x = Check.book(book);
            x.storm(0, 0, 7, 7, 100);
            askAll(x);
            x.leave(0);
            x.close();
            askAll(x);
            x.storm(7, 7, 7, 7, 50);
            wildActs(x);
            x.undo();
            askAll(x);
        }
        aFullTape();
        Check.close("WildTest");
    }

    private static void askAll(HailClub x) {
        long before = state(x);
        for (int a : WILD) {
            x.fault(a);
            x.now(a);
            x.club(a);
            x.rank(a);
            x.look(a);
            for (int b : WILD) {
                x.member(a, b);
                x.field(a, b);
                x.hazard(a, b);
                x.mine(a, b);
                x.then(a, b);
                x.without(a, b);
                x.near(a, b);
                x.alone(a, b);
                x.worst(a, b, 1 + Math.abs(b % 100), a);
                x.worst(2, 2, b, a);
            }
        }
        x.rate();
        x.reserve();
        Check.due("state behind questions", state(x), before);
    }

    private static void wildActs(HailClub x) {
        int kept = x.look(4);
        int[] never = {Integer.MIN_VALUE, -2, -1, 12, 16, 24, 700, Integer.MAX_VALUE};
        for (int a : never) {
            Check.due("wild storm", x.storm(a, 0, 7, 7, 1), -1);
            Check.due("wild storm", x.storm(0, a, 7, 7, 1), -1);
            Check.due("wild storm", x.storm(0, 0, a, 7, 1), -1);
            Check.due("wild storm", x.storm(0, 0, 7, a, 1), -1);
            Check.due("wild leave", x.leave(a), false);
            for (int b : WILD) {
                Check.due("wild set", x.set(a, b), false);
            }
        }
        Check.due("kept behind wild acts", x.look(4), kept);
    }

    private static long state(HailClub x) {
        long sum = 0;
        for (int i = 0; i < 10; i++) {
            sum = sum * 31 + x.look(i);
            sum = sum * 31 + x.club(i);
            sum = sum * 31 + x.now(i);
            for (int m = 0; m < 4; m++) {
                sum = sum * 31 + x.member(m, i);
                sum = sum * 31 + x.field(m, i);
                sum = sum * 31 + x.then(m, i);
            }
        }
        return sum;
    }

    /** Seven hundred bytes, each a token of its own, and the longest law. */
    private static void aFullTape() {
        HailClub x = new HailClub();
        Check.put(x, "(".repeat(700));
        Check.due("book of brackets", x.book(), -1);
        Check.put(x, "1".repeat(700));
        Check.due("book of digits", x.book(), -1);
        Check.put(x, "a".repeat(700));
        Check.due("join of letters", x.join(), -1);
        Check.due("its FAULT", x.fault(0), 1);
        Check.put(x, "member a;field a 0 0 0 1 9;pay 1" + "+1".repeat(333) + ";;");
        Check.due("book with one sign too many", x.book(), -1);
        Check.due("its place", x.fault(1), 699);
        Check.put(x, "member a;field a 0 0 0 1 9;pay 1" + "+1".repeat(333) + "; ");
        Check.due("book with the longest law", x.book(), 1);
        x.storm(0, 0, 0, 0, 100);
        Check.due("PAID by it", x.field(0, 8), 100);
        Check.put(x, "pay 1" + "-1".repeat(347) + "\n");
        Check.due("book without its end", x.book(), -1);
        Check.due("the place of the end", x.fault(1), 700);
    }
}
