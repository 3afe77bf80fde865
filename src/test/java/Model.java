import java.nio.charset.StandardCharsets;
import java.math.BigInteger;
import java.util.ArrayDeque;
import java.util.ArrayList;
import java.util.Arrays;
import java.util.Comparator;
import java.util.Deque;
import java.util.List;
import java.util.Map;
import java.util.Set;
import java.util.TreeMap;
import java.util.TreeSet;
import java.util.regex.Matcher;
import java.util.regex.Pattern;

/** The document a second time, written in another way with all of the Java library, to compare with. */
final class Model {
    static final long LEAST = Long.MIN_VALUE;
    static final Set<String> TAKEN = Set.of("member", "field", "hazard", "crop", "rate", "reserve", "retain",
        "cover", "cap", "goal", "pay", "loss", "years", "min", "max", "if", "join", "leave");

    record Land(int owner, int x, int y, int crop, int area, int value) {
        long coins() {
            return (long) area * value;
        }
    }

    record Hail(int x, int y, int toX, int toY, int strength) {
        boolean over(Land f) {
            return x <= f.x && f.x <= toX && y <= f.y && f.y <= toY;
        }
    }

    record Person(String name, boolean there, boolean leaves, int years) {
    }

    interface Sum {
        long of(long loss, long hazard, long years, long crop);
    }

    /** A club at one moment; never changed once it is shared. */
    static final class Club implements Cloneable {
        int[][] hazards = new int[8][8];
        int[] soft = {100, 100, 100, 100};
        long rate = 10, reserve = 0, retain = 9999999, cover = 0, by = 100, cap = 4, goal = 10;
        Sum pay;
        List<Person> people = new ArrayList<>();
        List<Land> lands = new ArrayList<>();
        List<Hail> hails = new ArrayList<>();
        int year = 0;
        Map<Integer, long[]> latest = new TreeMap<>();

        Club() {
            for (int[] row : hazards) {
                Arrays.fill(row, 1);
            }
        }

        Club copy() {
            Club c = new Club();
            for (int x = 0; x < 8; x++) {
                c.hazards[x] = hazards[x].clone();
            }
            c.soft = soft.clone();
            c.rate = rate;
            c.reserve = reserve;
            c.retain = retain;
            c.cover = cover;
            c.by = by;
            c.cap = cap;
            c.goal = goal;
            c.pay = pay;
            c.people = new ArrayList<>(people);
            c.lands = new ArrayList<>(lands);
            c.hails = new ArrayList<>(hails);
            c.year = year;
            c.latest = new TreeMap<>(latest);
            return c;
        }

        boolean there(int m) {
            return m >= 0 && m < people.size() && people.get(m).there;
        }

        List<Integer> present() {
            List<Integer> all = new ArrayList<>();
            for (int m = 0; m < people.size(); m++) {
                if (people.get(m).there) {
                    all.add(m);
                }
            }
            return all;
        }

        boolean standing(Land f) {
            return there(f.owner);
        }

        long sums(int m) {
            return lands.stream().filter(f -> f.owner == m && standing(f)).mapToLong(Land::coins).sum();
        }

        long points(int m) {
            return lands.stream().filter(f -> f.owner == m && standing(f))
                .mapToLong(f -> f.coins() * hazards[f.x][f.y]).sum();
        }

        long advance(int m) {
            return points(m) * rate / 1000;
        }

        long lost(Land f, List<Hail> storms) {
            long all = 0;
            for (Hail h : storms) {
                if (h.over(f)) {
                    all += h.strength * soft[f.crop] / 100;
                }
            }
            return all > 100 ? 100 : all;
        }

        long paid(Land f, List<Hail> storms) {
            long lost = lost(f, storms);
            if (pay == null) {
                return lost >= 8 ? lost : 0;
            }
            long due = pay.of(lost, hazards[f.x][f.y], people.get(f.owner).years, f.crop);
            return due < 0 ? 0 : due > lost ? lost : due;
        }

        long claim(Land f, List<Hail> storms) {
            return standing(f) ? f.coins() * paid(f, storms) / 100 : 0;
        }

        long claims(int m, List<Hail> storms) {
            return lands.stream().filter(f -> f.owner == m).mapToLong(f -> claim(f, storms)).sum();
        }

        long losses(List<Hail> storms) {
            return lands.stream().mapToLong(f -> claim(f, storms)).sum();
        }
    }

    /** The END as it would be: totals by number, and six numbers a member. */
    static final class Outcome {
        long[] all = new long[11];
        Map<Integer, long[]> each = new TreeMap<>();
        Club after;
    }

    private byte[] tape = new byte[0];
    private Club club = new Club();
    private final Deque<Club> kept = new ArrayDeque<>();
    private int fault = 0;
    private int faultPlace = -1;

    static Map<Integer, Long> divided(long amount, Map<Integer, Long> weights) {
        Map<Integer, Long> shares = new TreeMap<>();
        BigInteger all = BigInteger.ZERO;
        for (int m : weights.keySet()) {
            shares.put(m, 0L);
            all = all.add(BigInteger.valueOf(weights.get(m)));
        }
        if (all.signum() == 0) {
            return shares;
        }
        Map<Integer, BigInteger> rests = new TreeMap<>();
        long left = amount;
        for (int m : weights.keySet()) {
            BigInteger[] parts = BigInteger.valueOf(amount).multiply(BigInteger.valueOf(weights.get(m)))
                .divideAndRemainder(all);
            shares.put(m, parts[0].longValueExact());
            rests.put(m, parts[1]);
            left -= parts[0].longValueExact();
        }
        List<Integer> order = new ArrayList<>(rests.keySet());
        order.sort(Comparator.comparing((Integer m) -> rests.get(m)).reversed().thenComparing(m -> m));
        for (int i = 0; i < left; i++) {
            shares.merge(order.get(i), 1L, Long::sum);
        }
        return shares;
    }

    static long total(Map<Integer, Long> shares) {
        return shares.values().stream().mapToLong(v -> v).sum();
    }

    /** The same club with a MEMBER and its FIELDS away, all numbers kept. */
    static Club lacking(Club club, int away) {
        Club c = club.copy();
        Person p = c.people.get(away);
        c.people.set(away, new Person(p.name, false, false, p.years));
        return c;
    }

    static Outcome outcome(Club c) {
        Outcome o = new Outcome();
        List<Integer> present = c.present();
        Map<Integer, Long> claims = new TreeMap<>();
        Map<Integer, Long> advances = new TreeMap<>();
        Map<Integer, Long> called = new TreeMap<>();
        Map<Integer, Long> given = new TreeMap<>();
        Map<Integer, Long> cut = new TreeMap<>();
        for (int m : present) {
            claims.put(m, c.claims(m, c.hails));
            advances.put(m, c.advance(m));
        }
        long losses = total(claims);
        long again = Math.min(c.cover, Math.max(0, losses - c.retain)) * c.by / 100;
        long net = losses - again;
        long paidIn = total(advances);
        long toReserve = 0;
        long borne = 0;
        long sums = present.stream().mapToLong(c::sums).sum();
        if (net <= paidIn) {
            toReserve = Math.min(paidIn - net, Math.max(0, c.goal * sums / 100 - c.reserve));
            given = divided(paidIn - net - toReserve, advances);
        } else {
            borne = Math.min(net - paidIn, c.reserve / 2);
            long left = net - paidIn - borne;
            Set<Integer> free = new TreeSet<>(present);
            while (!free.isEmpty()) {
                Map<Integer, Long> weights = new TreeMap<>();
                free.forEach(m -> weights.put(m, c.points(m)));
                Map<Integer, Long> parts = divided(left, weights);
                List<Integer> held = new ArrayList<>();
                for (int m : free) {
                    if (parts.get(m) > c.cap * advances.get(m)) {
                        held.add(m);
                    }
                }
                if (held.isEmpty()) {
                    called.putAll(parts);
                    left -= total(parts);
                    break;
                }
                for (int m : held) {
                    called.put(m, c.cap * advances.get(m));
                    left -= called.get(m);
                    free.remove(m);
                }
            }
            cut = divided(left, claims);
        }
        Map<Integer, Long> dues = new TreeMap<>();
        Club after = c.copy();
        after.reserve = c.reserve + toReserve - borne;
        for (int m : present) {
            Person p = c.people.get(m);
            if (p.leaves) {
                long allSums = after.present().stream().mapToLong(after::sums).sum();
                long allPoints = after.present().stream().mapToLong(after::points).sum();
                long gap = Math.max(0, after.goal * allSums / 100 - after.reserve);
                long part = allPoints == 0 ? 0 : gap * after.points(m) / allPoints;
                dues.put(m, part * Math.max(0, 5 - p.years - 1) / 5);
                after.reserve += dues.get(m);
                after.people.set(m, new Person(p.name, false, false, p.years));
            }
        }
        for (int m : after.present()) {
            Person p = after.people.get(m);
            after.people.set(m, new Person(p.name, true, false, p.years + 1));
        }
        after.hails.clear();
        after.year++;
        for (int m : present) {
            long[] row = {claims.get(m), cut.getOrDefault(m, 0L), given.getOrDefault(m, 0L),
                called.getOrDefault(m, 0L), dues.getOrDefault(m, 0L), 0};
            row[5] = row[0] - row[1] + row[2] - advances.get(m) - row[3] - row[4];
            o.each.put(m, row);
        }
        o.all = new long[] {losses, again, net, paidIn, toReserve, total(given), borne, total(called),
            total(cut), total(dues), after.reserve};
        after.latest = o.each;
        o.after = after;
        return o;
    }

    private void done(Club next) {
        kept.addLast(club);
        if (kept.size() > 8) {
            kept.removeFirst();
        }
        club = next;
    }

    // ---- the text ----

    static final class Fault extends RuntimeException {
        final int number;
        final int place;

        Fault(int number, int place) {
            this.number = number;
            this.place = place;
        }
    }

    record Token(String text, int place) {
        boolean word() {
            return text.matches("[a-z]+");
        }

        boolean name() {
            return text.matches("[a-z]{1,7}") && !TAKEN.contains(text);
        }

        boolean number() {
            return text.matches("[0-9]{1,8}");
        }
    }

    static List<Token> tokens(byte[] tape) {
        String text = new String(tape, StandardCharsets.ISO_8859_1);
        List<Token> all = new ArrayList<>();
        Matcher m = Pattern.compile("[a-z]+|[0-9]+|[^ \n]").matcher(text);
        while (m.find()) {
            all.add(new Token(m.group(), m.start()));
        }
        all.add(new Token("", text.length()));
        return all;
    }

    static final class Parser {
        final List<Token> tokens;
        final Club c;
        int at = 0;
        int open = 0;

        Parser(List<Token> tokens, Club c) {
            this.tokens = tokens;
            this.c = c;
        }

        Token look() {
            return tokens.get(at);
        }

        boolean over() {
            return look().text.isEmpty();
        }

        Fault fault(int number) {
            return new Fault(number, look().place);
        }

        boolean eat(String text) {
            if (look().text.equals(text)) {
                at++;
                return true;
            }
            return false;
        }

        void need(String text) {
            if (!eat(text)) {
                throw fault(1);
            }
        }

        int number(int least, int most) {
            if (!look().number()) {
                throw fault(1);
            }
            int n = Integer.parseInt(look().text);
            if (n < least || n > most) {
                throw fault(4);
            }
            at++;
            return n;
        }

        String name() {
            if (!look().name()) {
                throw fault(1);
            }
            return look().text;
        }

        int find(String name) {
            for (int m = 0; m < c.people.size(); m++) {
                if (c.people.get(m).name.equals(name)) {
                    return m;
                }
            }
            return -1;
        }

        void book() {
            while (!over()) {
                line();
                need(";");
            }
        }

        void line() {
            if (look().text.equals("member") && c.people.size() == 12) {
                throw fault(5);
            }
            if (look().text.equals("field") && c.lands.size() == 24) {
                throw fault(5);
            }
            if (look().text.equals("pay") && c.pay != null) {
                throw fault(5);
            }
            if (eat("member")) {
                String name = name();
                if (find(name) >= 0) {
                    throw fault(2);
                }
                at++;
                c.people.add(new Person(name, true, false, 0));
            } else if (eat("field")) {
                int m = find(name());
                if (m < 0) {
                    throw fault(3);
                }
                at++;
                land(m);
            } else if (eat("hazard")) {
                int x = number(0, 7);
                int y = number(0, 7);
                int toX = number(x, 7);
                int toY = number(y, 7);
                int h = number(1, 9);
                for (int i = x; i <= toX; i++) {
                    Arrays.fill(c.hazards[i], y, toY + 1, h);
                }
            } else if (eat("crop")) {
                int crop = number(0, 3);
                c.soft[crop] = number(0, 200);
            } else if (eat("rate")) {
                c.rate = number(0, 999);
            } else if (eat("reserve")) {
                c.reserve = number(0, 99999999);
            } else if (eat("retain")) {
                c.retain = number(0, 9999999);
            } else if (eat("cover")) {
                c.cover = number(0, 9999999);
                c.by = number(0, 100);
            } else if (eat("cap")) {
                c.cap = number(0, 99);
            } else if (eat("goal")) {
                c.goal = number(0, 100);
            } else if (eat("pay")) {
                c.pay = sum();
            } else {
                throw fault(1);
            }
        }

        void land(int owner) {
            c.lands.add(new Land(owner, number(0, 7), number(0, 7), number(0, 3), number(1, 99), number(1, 999)));
        }

        void joiner() {
            String name = name();
            if (find(name) >= 0) {
                throw fault(2);
            }
            if (c.people.size() == 12) {
                throw fault(5);
            }
            at++;
            c.people.add(new Person(name, true, false, 0));
            while (!over()) {
                if (c.lands.size() == 24) {
                    number(0, 7);
                    at--;
                    throw fault(5);
                }
                land(c.people.size() - 1);
            }
        }

        Sum sum() {
            Sum left = product();
            while (look().text.equals("+") || look().text.equals("-")) {
                boolean plus = look().text.equals("+");
                at++;
                Sum a = left;
                Sum b = product();
                left = (l, h, y, k) -> plus ? a.of(l, h, y, k) + b.of(l, h, y, k) : a.of(l, h, y, k) - b.of(l, h, y, k);
            }
            return left;
        }

        Sum product() {
            Sum left = part();
            while (look().text.equals("*") || look().text.equals("/")) {
                boolean times = look().text.equals("*");
                at++;
                Sum a = left;
                Sum b = part();
                left = (l, h, y, k) -> {
                    long by = b.of(l, h, y, k);
                    return times ? a.of(l, h, y, k) * by : by == 0 ? 0 : a.of(l, h, y, k) / by;
                };
            }
            return left;
        }

        Sum part() {
            if (look().number()) {
                long n = Long.parseLong(look().text);
                at++;
                return (l, h, y, k) -> n;
            }
            if (eat("loss")) {
                return (l, h, y, k) -> l;
            }
            if (eat("hazard")) {
                return (l, h, y, k) -> h;
            }
            if (eat("years")) {
                return (l, h, y, k) -> y;
            }
            if (eat("crop")) {
                return (l, h, y, k) -> k;
            }
            if (eat("min")) {
                Sum[] s = brackets(2);
                return (l, h, y, k) -> Math.min(s[0].of(l, h, y, k), s[1].of(l, h, y, k));
            }
            if (eat("max")) {
                Sum[] s = brackets(2);
                return (l, h, y, k) -> Math.max(s[0].of(l, h, y, k), s[1].of(l, h, y, k));
            }
            if (eat("if")) {
                Sum[] s = brackets(3);
                return (l, h, y, k) -> s[0].of(l, h, y, k) > 0 ? s[1].of(l, h, y, k) : s[2].of(l, h, y, k);
            }
            return brackets(1)[0];
        }

        Sum[] brackets(int count) {
            if (look().text.equals("(") && open == 8) {
                throw fault(5);
            }
            need("(");
            open++;
            Sum[] sums = new Sum[count];
            for (int i = 0; i < count; i++) {
                if (i > 0) {
                    need(",");
                }
                sums[i] = sum();
            }
            need(")");
            open--;
            return sums;
        }
    }

    // ---- the face ----

    int feed(int a, int b, int c, int d, int e) {
        if (tape.length + 20 > 700) {
            return -1;
        }
        byte[] more = Arrays.copyOf(tape, tape.length + 20);
        java.nio.ByteBuffer.wrap(more, tape.length, 20).putInt(a).putInt(b).putInt(c).putInt(d).putInt(e);
        tape = more;
        return tape.length;
    }

    boolean end(int n) {
        if (n < 0 || n > tape.length) {
            return false;
        }
        tape = Arrays.copyOf(tape, n);
        return true;
    }

    private byte[] takeTape() {
        byte[] all = tape;
        tape = new byte[0];
        return all;
    }

    int book() {
        Club c = new Club();
        fault = 0;
        faultPlace = -1;
        try {
            new Parser(tokens(takeTape()), c).book();
        } catch (Fault f) {
            fault = f.number;
            faultPlace = f.place;
            return -1;
        }
        club = c;
        kept.clear();
        return c.lands.size();
    }

    int join() {
        Club c = club.copy();
        fault = 0;
        faultPlace = -1;
        try {
            new Parser(tokens(takeTape()), c).joiner();
        } catch (Fault f) {
            fault = f.number;
            faultPlace = f.place;
            return -1;
        }
        int m = c.people.size() - 1;
        long others = club.present().stream().mapToLong(club::points).sum();
        BigInteger price = others == 0 ? BigInteger.ZERO : BigInteger.valueOf(c.reserve)
            .multiply(BigInteger.valueOf(c.points(m))).divide(BigInteger.valueOf(others))
            .min(BigInteger.valueOf(9999999));
        c.reserve += price.longValueExact();
        done(c);
        return price.intValueExact();
    }

    int fault(int what) {
        return what == 0 ? fault : what == 1 ? faultPlace : -1;
    }

    int named() {
        List<Token> all = tokens(takeTape());
        for (int m : club.present()) {
            if (all.size() == 2 && all.get(0).text.equals(club.people.get(m).name)) {
                return m;
            }
        }
        return -1;
    }

    private static boolean cell(int x, int y) {
        return x >= 0 && x <= 7 && y >= 0 && y <= 7;
    }

    int storm(int x, int y, int toX, int toY, int strength) {
        if (!cell(x, y) || !cell(toX, toY) || toX < x || toY < y || strength < 1 || strength > 100
            || club.hails.size() == 16) {
            return -1;
        }
        Club c = club.copy();
        Hail h = new Hail(x, y, toX, toY, strength);
        c.hails.add(h);
        done(c);
        return (int) c.lands.stream().filter(f -> c.standing(f) && h.over(f)).count();
    }

    boolean leave(int m) {
        if (!club.there(m) || club.people.get(m).leaves) {
            return false;
        }
        Club c = club.copy();
        Person p = c.people.get(m);
        c.people.set(m, new Person(p.name, true, true, p.years));
        done(c);
        return true;
    }

    long close() {
        if (club.present().isEmpty()) {
            return -1;
        }
        Outcome o = outcome(club);
        done(o.after);
        return o.all[0];
    }

    boolean undo() {
        if (kept.isEmpty()) {
            return false;
        }
        club = kept.removeLast();
        return true;
    }

    long member(int m, int what) {
        if (m < 0 || m >= club.people.size() || what < 0 || what > 7) {
            return -1;
        }
        Person p = club.people.get(m);
        long fields = club.lands.stream().filter(f -> f.owner == m && club.standing(f)).count();
        return new long[] {p.there ? 1 : 0, p.leaves ? 1 : 0, p.years, fields, club.sums(m), club.points(m),
            club.advance(m), club.claims(m, club.hails)}[what];
    }

    long field(int i, int what) {
        if (i < 0 || i >= club.lands.size() || what < 0 || what > 9) {
            return -1;
        }
        Land f = club.lands.get(i);
        boolean there = club.standing(f);
        return new long[] {f.owner, f.x, f.y, f.crop, f.area, f.value, there ? 1 : 0,
            there ? club.lost(f, club.hails) : 0, there ? club.paid(f, club.hails) : 0,
            there ? club.claim(f, club.hails) : 0}[what];
    }

    int hazard(int x, int y) {
        return cell(x, y) ? club.hazards[x][y] : -1;
    }

    long now(int what) {
        return what < 0 || what > 10 || club.present().isEmpty() ? -1 : outcome(club).all[what];
    }

    long mine(int m, int what) {
        return what < 0 || what > 5 || !club.there(m) ? LEAST : outcome(club).each.get(m)[what];
    }

    long then(int m, int what) {
        return what < 0 || what > 5 || !club.latest.containsKey(m) ? LEAST : club.latest.get(m)[what];
    }

    long club(int what) {
        long sums = club.lands.stream().filter(club::standing).mapToLong(Land::coins).sum();
        long points = club.present().stream().mapToLong(club::points).sum();
        long[] all = {club.rate, club.reserve, club.retain, club.cover, club.by, club.cap, club.goal,
            club.goal * sums / 100, sums, points};
        return what < 0 || what > 9 ? -1 : all[what];
    }

    boolean set(int what, int v) {
        Club c = club.copy();
        if (what == 0 && v >= 0 && v <= 999 && v != c.rate) {
            c.rate = v;
        } else if (what == 5 && v >= 0 && v <= 99 && v != c.cap) {
            c.cap = v;
        } else if (what == 6 && v >= 0 && v <= 100 && v != c.goal) {
            c.goal = v;
        } else {
            return false;
        }
        done(c);
        return true;
    }

    long worst(int wide, int high, int strength, int what) {
        if (wide < 1 || wide > 8 || high < 1 || high > 8 || strength < 1 || strength > 100
            || what < 0 || what > 2 || club.hails.size() == 16) {
            return -1;
        }
        long[] best = null;
        for (int y = 0; y + high <= 8; y++) {
            for (int x = 0; x + wide <= 8; x++) {
                List<Hail> storms = new ArrayList<>(club.hails);
                storms.add(new Hail(x, y, x + wide - 1, y + high - 1, strength));
                long losses = club.losses(storms);
                if (best == null || losses > best[2]) {
                    best = new long[] {x, y, losses};
                }
            }
        }
        return best[what];
    }

    private boolean calm(Club c) {
        Outcome o = outcome(c);
        return o.all[7] == 0 && o.all[8] == 0;
    }

    int rate() {
        if (club.present().isEmpty()) {
            return -1;
        }
        Club c = club.copy();
        for (c.rate = 0; c.rate <= 999; c.rate++) {
            if (calm(c)) {
                return (int) c.rate;
            }
        }
        return -1;
    }

    /** By halving: more in the RESERVE never calls for more. */
    long reserve() {
        if (club.present().isEmpty()) {
            return -1;
        }
        Club c = club.copy();
        long least = 0;
        long most = 100000000;
        while (least < most) {
            c.reserve = (least + most) / 2;
            if (calm(c)) {
                most = c.reserve;
            } else {
                least = c.reserve + 1;
            }
        }
        return least > 99999999 ? -1 : least;
    }

    long without(int m, int other) {
        if (m == other || !club.there(m) || !club.there(other)) {
            return LEAST;
        }
        return outcome(lacking(club, other)).each.get(m)[5] - outcome(club).each.get(m)[5];
    }

    int near(int x, int y) {
        if (!cell(x, y)) {
            return -1;
        }
        int bits = 0;
        int[][] cells = {{x, y}, {x - 1, y}, {x + 1, y}, {x, y - 1}, {x, y + 1}};
        for (Land f : club.lands) {
            for (int[] c : cells) {
                if (club.standing(f) && f.x == c[0] && f.y == c[1]) {
                    bits |= 1 << f.owner;
                }
            }
        }
        return bits;
    }

    int rank(int i) {
        List<Integer> order = club.present();
        Map<Integer, long[]> each = outcome(club).each;
        order.sort(Comparator.comparing((Integer m) -> -each.get(m)[5]));
        return i < 0 || i >= order.size() ? -1 : order.get(i);
    }

    long alone(int storm, int crop) {
        if (storm < 0 || storm >= club.hails.size() || crop < 0 || crop > 3) {
            return -1;
        }
        List<Hail> one = List.of(club.hails.get(storm));
        return club.lands.stream().filter(f -> f.crop == crop).mapToLong(f -> club.claim(f, one)).sum();
    }

    int look(int what) {
        int[] all = {club.present().size(), (int) club.lands.stream().filter(club::standing).count(),
            club.hails.size(), club.year, kept.size(), tape.length, club.people.size(), club.lands.size()};
        return what < 0 || what > 7 ? -1 : all[what];
    }
}
