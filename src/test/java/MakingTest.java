/** Promise 1. */
public final class MakingTest {
    public static void main(String[] args) {
        HailClub x = new HailClub();
        for (int what = 0; what <= 7; what++) {
            Check.due("look(" + what + ")", x.look(what), 0);
        }
        Check.due("NONE", HailClub.NONE, -1);
        Check.close("MakingTest");
    }
}
