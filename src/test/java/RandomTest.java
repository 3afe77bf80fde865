import java.nio.charset.StandardCharsets;
import java.util.ArrayList;
import java.util.List;
import java.util.Random;

/** Random runs of calls, each answer compared with Model's; the seeds are fixed, so a run can be had again. */
public final class RandomTest {
    private static final String[] NAMES = {"ann", "bob", "cy", "a", "zzzzzzz", "dora", "emil", "fritz", "gus",
        "hana", "ida", "jo", "kim", "lea"};
    private static final String[] LETTERS = {"a", "b", "c", "d", "e", "f", "g", "h", "i", "j", "k", "l", "m", "n"};
    private static final String[] ODD = {"member", "loss", "eightlet", "123456789", "!", "#", "(", ")", ",", ";",
        "join", "leave", "0", "8", "100", "99999999", "A", "\u00e9", "\t", "\0", "ann", "pay", "if", "-", "/"};

    private final Random random;
    private final HailClub club = new HailClub();
    private final Model model = new Model();
    private final StringBuilder log = new StringBuilder();
    private int calls = 0;
    private boolean small;
    // Whether a text has no odd N; else full clubs would hardly ever be read.
    private boolean careful;

    private RandomTest(long seed) {
        random = new Random(seed);
        log.append("seed ").append(seed).append(": ");
    }

    public static void main(String[] args) {
        int runs = args.length > 0 ? Integer.parseInt(args[0]) : 400;
        for (int seed = 0; seed < runs; seed++) {
            new RandomTest(seed).run();
        }
        Check.close("RandomTest");
    }

    private int below(int n) {
        return random.nextInt(n);
    }

    private String pick(String[] from) {
        return from[below(from.length)];
    }

    private void same(String call, long got, long want) {
        calls++;
        if (got != want) {
            System.out.println(log);
        }
        Check.due(call, got, want);
    }

    private void same(String call, boolean got, boolean want) {
        same(call, got ? 1 : 0, want ? 1 : 0);
    }

    private void run() {
        while (calls < 512) {
            if (calls == 0 || below(60) == 0) {
                text(bookText());
                same("book()", club.book(), model.book());
                same("fault(0)", club.fault(0), model.fault(0));
                same("fault(1)", club.fault(1), model.fault(1));
            } else if (below(3) > 0) {
                ask();
            } else {
                act();
            }
        }
    }

    private void text(String text) {
        careful = false;
        byte[] bytes = text.getBytes(StandardCharsets.ISO_8859_1);
        log.append('[').append(text).append("] ");
        for (int at = 0; at < bytes.length && at + 20 <= 700; at += 20) {
            int[] n = new int[5];
            for (int i = 0; i < 20; i++) {
                n[i / 4] = n[i / 4] << 8 | (at + i < bytes.length ? bytes[at + i] & 255 : 32);
            }
            same("feed", club.feed(n[0], n[1], n[2], n[3], n[4]), model.feed(n[0], n[1], n[2], n[3], n[4]));
        }
        int n = below(40) == 0 ? below(800) - 50 : Math.min(bytes.length, 700);
        same("end(" + n + ")", club.end(n), model.end(n));
        same("look(5)", club.look(5), model.look(5));
    }

    private int near(int least, int most) {
        if (!careful && below(60) == 0) {
            return most + 1;
        }
        return least + below(most - least + 1);
    }

    private String land() {
        int big = below(3) == 0 ? 999 : 30;
        String where = below(8) + " " + below(8) + " " + near(0, 3) + " ";
        return where + near(1, small ? 9 : 99) + " " + near(1, small ? 60 : big);
    }

    private String sum(int depth) {
        StringBuilder s = new StringBuilder(product(depth));
        while (below(3) == 0) {
            s.append(below(2) == 0 ? "+" : " - ").append(product(depth));
        }
        return s.toString();
    }

    private String product(int depth) {
        StringBuilder s = new StringBuilder(part(depth));
        while (below(3) == 0) {
            s.append(below(2) == 0 ? "*" : "/").append(part(depth));
        }
        return s.toString();
    }

    private String part(int depth) {
        switch (depth > 8 ? below(5) : below(9)) {
            case 0: return "" + below(below(2) == 0 ? 100 : 100000000);
            case 1: return "hazard";
            case 2: return "years";
            case 3: return "crop";
            case 4: return "loss";
            case 5: return "min(" + sum(depth + 1) + "," + sum(depth + 1) + ")";
            case 6: return "max (" + sum(depth + 1) + ", " + sum(depth + 1) + ")";
            case 7: return "if(" + sum(depth + 1) + "," + sum(depth + 1) + "," + sum(depth + 1) + ")";
            default: return "(" + sum(depth + 1) + ")";
        }
    }

    private String bookText() {
        small = below(2) == 0;
        careful = below(2) == 0;
        List<String> lines = new ArrayList<>();
        boolean full = below(3) == 0;
        String[] names = full ? LETTERS : NAMES;
        int members = full ? 7 + below(careful ? 6 : 7) : 1 + below(6);
        for (int m = 0; m < members; m++) {
            lines.add("member " + names[careful || below(40) > 0 ? m : below(14)]);
        }
        int fields = full ? 12 + below(careful ? 13 : 15) : below(14);
        for (int f = 0; f < fields; f++) {
            lines.add("field " + names[below(careful || below(60) > 0 ? members : 14)] + " " + land());
        }
        for (int i = below(5); i > 0; i--) {
            int x = below(8);
            int y = below(8);
            lines.add("hazard " + x + " " + y + " " + near(x, 7) + " " + near(y, 7) + " " + near(1, 9));
        }
        for (int i = below(3); i > 0; i--) {
            lines.add("crop " + near(0, 3) + " " + near(0, 200));
        }
        if (below(3) > 0) {
            lines.add("rate " + near(0, below(2) == 0 ? 999 : 60));
        }
        if (below(3) > 0) {
            lines.add("reserve " + near(0, below(3) == 0 ? 99999999 : 20000));
        }
        if (below(3) == 0) {
            lines.add("retain " + near(0, below(3) == 0 ? 9999999 : 20000));
            lines.add("cover " + near(0, 20000) + " " + near(0, 100));
        }
        if (below(2) == 0) {
            lines.add("cap " + near(0, below(2) == 0 ? 99 : 3));
        }
        if (below(2) == 0) {
            lines.add("goal " + near(0, 100));
        }
        if (below(2) == 0) {
            lines.add(below(members + 1), "pay " + sum(below(6)));
        }
        if (!careful && below(10) == 0) {
            lines.add("pay " + sum(3));
        }
        StringBuilder all = new StringBuilder();
        for (String line : lines) {
            if (all.length() + line.length() < 699) {
                all.append(line).append(';').append(below(4) == 0 ? "\n" : "");
            }
        }
        return careful ? all.toString() : spoiled(all.toString());
    }

    private String spoiled(String text) {
        StringBuilder all = new StringBuilder(text);
        if (below(3) == 0 && all.length() > 0) {
            int at = below(all.length());
            switch (below(4)) {
                case 0: all.insert(at, pick(ODD)); break;
                case 1: all.insert(at, " " + pick(ODD) + " "); break;
                case 2: all.deleteCharAt(at); break;
                default: all.setLength(at); break;
            }
        }
        return all.toString();
    }

    private void act() {
        switch (below(11)) {
            case 10:
                tune();
                break;
            case 0:
                if (below(2) == 0) {
                    careful = below(2) == 0;
                    StringBuilder who = new StringBuilder(pick(below(2) == 0 ? NAMES : LETTERS));
                    for (int i = below(4); i > 0; i--) {
                        who.append(' ').append(land());
                    }
                    text(careful ? who.toString() : spoiled(who.toString()));
                    same("join()", club.join(), model.join());
                    same("fault(0)", club.fault(0), model.fault(0));
                    same("fault(1)", club.fault(1), model.fault(1));
                }
                break;
            case 1: case 2: case 3: case 4:
                for (int i = below(15) == 0 ? 17 : 1; i > 0; i--) {
                    storm();
                }
                break;
            case 5: {
                int m = below(14) - 1;
                log.append("leave(" + m + ") ");
                same("leave(" + m + ")", club.leave(m), model.leave(m));
                break;
            }
            case 6: case 7:
                log.append("close() ");
                same("close()", club.close(), model.close());
                break;
            case 8: {
                int what = below(8);
                int v = what == 0 ? near(0, 999) : near(0, 100);
                log.append("set(" + what + ", " + v + ") ");
                same("set(" + what + ", " + v + ")", club.set(what, v), model.set(what, v));
                break;
            }
            default:
                for (int i = below(10) == 0 ? 9 : 1; i > 0; i--) {
                    log.append("undo() ");
                    same("undo()", club.undo(), model.undo());
                }
                break;
        }
    }

    private void storm() {
        int x = below(8);
        int y = below(8);
        int toX = near(x - (below(30) == 0 ? 1 : 0), 7);
        int toY = near(y - (below(30) == 0 ? 1 : 0), 7);
        int strength = near(below(30) == 0 ? 0 : 1, 100);
        String call = "storm(" + x + ", " + y + ", " + toX + ", " + toY + ", " + strength + ")";
        log.append(call).append(' ');
        same(call, club.storm(x, y, toX, toY, strength), model.storm(x, y, toX, toY, strength));
    }

    /** A RATE by which some, but not all, are called for the most that may be. */
    private void tune() {
        long wanted = model.rate() == -1 ? 999 : model.rate();
        int v = (int) Math.max(1, wanted / (1 + below((int) model.club(5) + 2)));
        log.append("set(0, " + v + ") ");
        same("set(0, " + v + ")", club.set(0, v), model.set(0, v));
        for (int what = 0; what <= 10; what++) {
            same("now(" + what + ")", club.now(what), model.now(what));
        }
        for (int m = 0; m < model.look(6); m++) {
            int what = below(6);
            same("mine(" + m + ", " + what + ")", club.mine(m, what), model.mine(m, what));
        }
    }

    private int what(int most) {
        int odd = below(40);
        return odd == 0 ? -1 : odd == 1 ? most + 1 : odd == 2 ? random.nextInt() : below(most + 1);
    }

    private void ask() {
        int m = below(30) == 0 ? random.nextInt() : below(13) - (below(20) == 0 ? 1 : 0);
        int x = what(7);
        int y = what(7);
        int w;
        switch (below(14)) {
            case 0: w = what(7); same("member(" + m + ", " + w + ")", club.member(m, w), model.member(m, w)); break;
            case 1: {
                int f = what(24);
                w = what(9);
                same("field(" + f + ", " + w + ")", club.field(f, w), model.field(f, w));
                break;
            }
            case 2: same("hazard(" + x + ", " + y + ")", club.hazard(x, y), model.hazard(x, y)); break;
            case 3: w = what(10); same("now(" + w + ")", club.now(w), model.now(w)); break;
            case 4: w = what(5); same("mine(" + m + ", " + w + ")", club.mine(m, w), model.mine(m, w)); break;
            case 5: w = what(5); same("then(" + m + ", " + w + ")", club.then(m, w), model.then(m, w)); break;
            case 6: w = what(9); same("club(" + w + ")", club.club(w), model.club(w)); break;
            case 7: {
                int wide = what(8);
                int high = what(8);
                int strength = near(1, 100);
                w = what(2);
                same("worst(" + wide + ", " + high + ", " + strength + ", " + w + ")",
                    club.worst(wide, high, strength, w), model.worst(wide, high, strength, w));
                break;
            }
            case 8:
                same("rate()", club.rate(), model.rate());
                same("reserve()", club.reserve(), model.reserve());
                break;
            case 9: {
                int other = below(13) - (below(20) == 0 ? 1 : 0);
                same("without(" + m + ", " + other + ")", club.without(m, other), model.without(m, other));
                break;
            }
            case 10: same("near(" + x + ", " + y + ")", club.near(x, y), model.near(x, y)); break;
            case 11: w = what(12); same("rank(" + w + ")", club.rank(w), model.rank(w)); break;
            case 12: {
                int s = what(15);
                w = what(3);
                same("alone(" + s + ", " + w + ")", club.alone(s, w), model.alone(s, w));
                break;
            }
            default:
                w = what(7);
                same("look(" + w + ")", club.look(w), model.look(w));
                if (below(6) == 0) {
                    text(spoiled(" " + pick(below(2) == 0 ? NAMES : LETTERS) + "\n"));
                    same("named()", club.named(), model.named());
                    same("fault(0)", club.fault(0), model.fault(0));
                }
                break;
        }
    }
}
