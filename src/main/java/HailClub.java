/** A club of farmers that hedge one another against hail. */
public final class HailClub {
    public static final int NONE = -1;

    private static final int SIDE = 8;
    private static final int CELLS = SIDE * SIDE;
    private static final int CROPS = 4;
    private static final int MEMBERS = 12;
    private static final int FIELDS = 24;
    private static final int STORMS = 16;
    private static final int TAPE_BYTES = 700;
    private static final int KEPT = 8;
    private static final int STRONGEST = 100;
    private static final int HIGHEST_RATE = 999;
    private static final int HIGHEST_RESERVE = 99999999;
    private static final int DEAREST_BUY_IN = 9999999;

    // What club() tells, and where a State keeps it.
    private static final int RATE = 0;
    private static final int RESERVE = 1;
    private static final int RETAIN = 2;
    private static final int COVER = 3;
    private static final int BY = 4;
    private static final int CAP = 5;
    private static final int GOAL = 6;
    private static final int RULES = 7;
    private static final int[] RULE_MOST = {999, 99999999, 9999999, 9999999, 100, 99, 100};

    // What now() tells, and where an Ending keeps it.
    private static final int LOSSES = 0;
    private static final int AGAIN = 1;
    private static final int NET = 2;
    private static final int ADVANCES = 3;
    private static final int TO_RESERVE = 4;
    private static final int GIVEN_IN_ALL = 5;
    private static final int BORNE = 6;
    private static final int CALLED_IN_ALL = 7;
    private static final int CUT_IN_ALL = 8;
    private static final int DUES_IN_ALL = 9;
    private static final int RESERVE_BEHIND = 10;
    private static final int TOTALS = 11;

    // What mine() and then() tell, and where an Ending keeps it.
    private static final int CLAIMS = 0;
    private static final int CUT = 1;
    private static final int GIVEN = 2;
    private static final int CALLED = 3;
    private static final int DUES = 4;
    private static final int BALANCE = 5;
    private static final int ROWS = 6;

    private final Tape tape = new Tape();
    private final State state = new State();
    private final State draft = new State();
    private final Law law = new Law();
    private final Law draftLaw = new Law();
    private final Reader reader = new Reader(tape, draft, draftLaw);
    private final History history = new History();
    private final Assessor assessor = new Assessor(state, law);
    private final Ending ending = new Ending(state, assessor);

    public HailClub() {
    }

    public int feed(int a, int b, int c, int d, int e) {
        if (!tape.takes(20)) {
            return NONE;
        }
        tape.append(a);
        tape.append(b);
        tape.append(c);
        tape.append(d);
        tape.append(e);
        return tape.length;
    }

    public boolean end(int n) {
        if (n < 0 || n > tape.length) {
            return false;
        }
        tape.length = n;
        return true;
    }

    public int book() {
        boolean fine = reader.readBook();
        tape.length = 0;
        if (!fine) {
            return NONE;
        }
        state.copyFrom(draft);
        law.copyFrom(draftLaw);
        history.count = 0;
        return state.fieldCount;
    }

    public int join() {
        draft.copyFrom(state);
        boolean fine = reader.readJoiner();
        tape.length = 0;
        if (!fine) {
            return NONE;
        }
        long price = buyIn(draft, draft.memberCount - 1);
        draft.rules[RESERVE] += price;
        history.keep(state);
        state.copyFrom(draft);
        return (int) price;
    }

    private static long buyIn(State joined, int member) {
        long own = joined.pointsOf(member);
        long others = joined.allPoints() - own;
        if (others <= 0) {
            return 0;
        }
        return Math.min(DEAREST_BUY_IN, joined.rules[RESERVE] * own / others);
    }

    public int fault(int what) {
        if (what == 0) {
            return reader.fault;
        }
        return what == 1 ? reader.faultPlace : NONE;
    }

    public int named() {
        long name = reader.readLoneName();
        tape.length = 0;
        int member = state.memberNamed(name);
        return state.isThere(member) ? member : NONE;
    }

    public int storm(int x, int y, int toX, int toY, int strength) {
        if (state.stormCount >= STORMS || !isArea(x, y, toX, toY) || !isStrength(strength)) {
            return NONE;
        }
        history.keep(state);
        Storm come = new Storm(x, y, toX, toY, strength);
        state.addStorm(come);
        return state.fieldsUnder(come);
    }

    public boolean leave(int member) {
        if (!state.isThere(member) || state.leaves[member]) {
            return false;
        }
        history.keep(state);
        state.leaves[member] = true;
        return true;
    }

    public long close() {
        if (state.membersThere() == 0) {
            return NONE;
        }
        history.keep(state);
        ending.reckon(NONE);
        state.endYear(ending);
        return ending.totals[LOSSES];
    }

    public boolean undo() {
        return history.takeBack(state);
    }

    public long member(int member, int what) {
        if (!state.isKnown(member)) {
            return NONE;
        }
        switch (what) {
            case 0: return state.there[member] ? 1 : 0;
            case 1: return state.leaves[member] ? 1 : 0;
            case 2: return state.years[member];
            case 3: return state.fieldsOf(member);
            case 4: return state.sumsOf(member);
            case 5: return state.pointsOf(member);
            case 6: return advance(state.pointsOf(member), state.rules[RATE]);
            case 7: return assessor.claimsOf(member);
            default: return NONE;
        }
    }

    public long field(int field, int what) {
        if (!state.isFieldKnown(field)) {
            return NONE;
        }
        Field land = state.fields[field];
        boolean there = state.stands(field);
        switch (what) {
            case 0: return land.owner;
            case 1: return land.x;
            case 2: return land.y;
            case 3: return land.crop;
            case 4: return land.area;
            case 5: return land.value;
            case 6: return there ? 1 : 0;
            case 7: return there ? assessor.lost(land) : 0;
            case 8: return there ? assessor.paid(land, assessor.lost(land)) : 0;
            case 9: return there ? assessor.claim(land, assessor.lost(land)) : 0;
            default: return NONE;
        }
    }

    public int hazard(int x, int y) {
        return isCell(x, y) ? state.hazardAt(x, y) : NONE;
    }

    public long now(int what) {
        if (what < 0 || what >= TOTALS || state.membersThere() == 0) {
            return NONE;
        }
        ending.reckon(NONE);
        return ending.totals[what];
    }

    public long mine(int member, int what) {
        if (what < 0 || what >= ROWS || !state.isThere(member)) {
            return Long.MIN_VALUE;
        }
        ending.reckon(NONE);
        return ending.rows[what][member];
    }

    public long then(int member, int what) {
        if (what < 0 || what >= ROWS || member < 0 || member >= MEMBERS || !state.endThere[member]) {
            return Long.MIN_VALUE;
        }
        return state.endRows[what][member];
    }

    public long club(int what) {
        if (what >= 0 && what < RULES) {
            return state.rules[what];
        }
        switch (what) {
            case 7: return goalCoins(state.rules[GOAL], state.allSums());
            case 8: return state.allSums();
            case 9: return state.allPoints();
            default: return NONE;
        }
    }

    public boolean set(int what, int v) {
        if (what != RATE && what != CAP && what != GOAL) {
            return false;
        }
        if (v < 0 || v > RULE_MOST[what] || v == state.rules[what]) {
            return false;
        }
        history.keep(state);
        state.rules[what] = v;
        return true;
    }

    public long worst(int wide, int high, int strength, int what) {
        if (!isSpan(wide) || !isSpan(high) || !isStrength(strength) || state.stormCount >= STORMS) {
            return NONE;
        }
        if (what < 0 || what > 2) {
            return NONE;
        }
        assessor.findWorst(wide, high, strength);
        if (what == 0) {
            return assessor.worstX;
        }
        return what == 1 ? assessor.worstY : assessor.worstLosses;
    }

    public int rate() {
        if (state.membersThere() == 0) {
            return NONE;
        }
        ending.reckon(NONE);
        long borne = state.rules[RESERVE] / 2;
        for (int rate = 0; rate <= HIGHEST_RATE; rate++) {
            if (ending.totals[NET] - ending.advancesBy(rate) <= borne) {
                return rate;
            }
        }
        return NONE;
    }

    public long reserve() {
        if (state.membersThere() == 0) {
            return NONE;
        }
        ending.reckon(NONE);
        // The RESERVE bears but the half of itself.
        long needed = 2 * Math.max(0, ending.totals[NET] - ending.totals[ADVANCES]);
        return needed <= HIGHEST_RESERVE ? needed : NONE;
    }

    public long without(int member, int other) {
        if (member == other || !state.isThere(member) || !state.isThere(other)) {
            return Long.MIN_VALUE;
        }
        ending.reckon(NONE);
        long balance = ending.rows[BALANCE][member];
        ending.reckon(other);
        return ending.rows[BALANCE][member] - balance;
    }

    public int near(int x, int y) {
        if (!isCell(x, y)) {
            return NONE;
        }
        int members = 0;
        for (int i = 0; i < state.fieldCount; i++) {
            if (state.stands(i) && state.fields[i].isBeside(x, y)) {
                members |= 1 << state.fields[i].owner;
            }
        }
        return members;
    }

    public int rank(int i) {
        ending.reckon(NONE);
        for (int member = 0; member < state.memberCount; member++) {
            if (state.isThere(member) && ending.ahead(member) == i) {
                return member;
            }
        }
        return NONE;
    }

    public long alone(int storm, int crop) {
        if (storm < 0 || storm >= state.stormCount || crop < 0 || crop >= CROPS) {
            return NONE;
        }
        return assessor.claimsOfOne(state.storms[storm], crop);
    }

    public int look(int what) {
        switch (what) {
            case 0: return state.membersThere();
            case 1: return state.fieldsThere();
            case 2: return state.stormCount;
            case 3: return state.year;
            case 4: return history.count;
            case 5: return tape.length;
            case 6: return state.memberCount;
            case 7: return state.fieldCount;
            default: return NONE;
        }
    }

    private static boolean isCell(int x, int y) {
        return x >= 0 && x < SIDE && y >= 0 && y < SIDE;
    }

    private static boolean isArea(int x, int y, int toX, int toY) {
        return isCell(x, y) && isCell(toX, toY) && x <= toX && y <= toY;
    }

    private static boolean isSpan(int cells) {
        return cells >= 1 && cells <= SIDE;
    }

    private static boolean isStrength(int strength) {
        return strength >= 1 && strength <= STRONGEST;
    }

    private static long advance(long points, long rate) {
        return points * rate / 1000;
    }

    private static long goalCoins(long goal, long sums) {
        return goal * sums / 100;
    }

    /** THE TAPE. */
    private static final class Tape {
        final byte[] bytes = new byte[TAPE_BYTES];
        int length;

        boolean takes(int more) {
            return length <= TAPE_BYTES - more;
        }

        void append(int number) {
            for (int shift = 24; shift >= 0; shift -= 8) {
                if (length >= 0 && length < TAPE_BYTES) {
                    bytes[length] = (byte) (number >> shift);
                    length++;
                }
            }
        }
    }

    /** A piece of land; it never changes, so states that are kept may share it. */
    private static final class Field {
        final int owner;
        final int x;
        final int y;
        final int crop;
        final int area;
        final int value;

        Field(int owner, int x, int y, int crop, int area, int value) {
            this.owner = owner;
            this.x = x;
            this.y = y;
            this.crop = crop;
            this.area = area;
            this.value = value;
        }

        long coins() {
            return (long) area * value;
        }

        /** Cells that touch at a corner alone differ in x and in y, so they are not beside one another. */
        boolean isBeside(int cellX, int cellY) {
            return Math.abs(x - cellX) + Math.abs(y - cellY) <= 1;
        }
    }

    /** A storm; it never changes, so states that are kept may share it. */
    private static final class Storm {
        final int x;
        final int y;
        final int toX;
        final int toY;
        final int strength;

        Storm(int x, int y, int toX, int toY, int strength) {
            this.x = x;
            this.y = y;
            this.toX = toX;
            this.toY = toY;
            this.strength = strength;
        }

        boolean isOver(Field land) {
            return land.x >= x && land.x <= toX && land.y >= y && land.y <= toY;
        }
    }

    /** All of the club that undo() brings back. */
    private static final class State {
        final long[] rules = new long[RULES];
        final int[] hazards = new int[CELLS];
        final int[] softs = new int[CROPS];
        final long[] names = new long[MEMBERS];
        final boolean[] there = new boolean[MEMBERS];
        final boolean[] leaves = new boolean[MEMBERS];
        final int[] years = new int[MEMBERS];
        final Field[] fields = new Field[FIELDS];
        final Storm[] storms = new Storm[STORMS];
        final boolean[] endThere = new boolean[MEMBERS];
        final long[][] endRows = new long[ROWS][MEMBERS];
        int memberCount;
        int fieldCount;
        int stormCount;
        int year;

        State() {
            clear();
        }

        void clear() {
            for (int cell = 0; cell < CELLS; cell++) {
                hazards[cell] = 1;
            }
            for (int crop = 0; crop < CROPS; crop++) {
                softs[crop] = 100;
            }
            for (int member = 0; member < MEMBERS; member++) {
                there[member] = false;
                leaves[member] = false;
                years[member] = 0;
                endThere[member] = false;
            }
            rules[RATE] = 10;
            rules[RESERVE] = 0;
            rules[RETAIN] = 9999999;
            rules[COVER] = 0;
            rules[BY] = 100;
            rules[CAP] = 4;
            rules[GOAL] = 10;
            memberCount = 0;
            fieldCount = 0;
            stormCount = 0;
            year = 0;
        }

        void copyFrom(State other) {
            System.arraycopy(other.rules, 0, rules, 0, RULES);
            System.arraycopy(other.hazards, 0, hazards, 0, CELLS);
            System.arraycopy(other.softs, 0, softs, 0, CROPS);
            System.arraycopy(other.names, 0, names, 0, MEMBERS);
            System.arraycopy(other.years, 0, years, 0, MEMBERS);
            for (int member = 0; member < MEMBERS; member++) {
                there[member] = other.there[member];
                leaves[member] = other.leaves[member];
                endThere[member] = other.endThere[member];
            }
            for (int i = 0; i < FIELDS; i++) {
                fields[i] = other.fields[i];
            }
            for (int i = 0; i < STORMS; i++) {
                storms[i] = other.storms[i];
            }
            copyEndRows(other.endRows);
            memberCount = other.memberCount;
            fieldCount = other.fieldCount;
            stormCount = other.stormCount;
            year = other.year;
        }

        private void copyEndRows(long[][] rows) {
            for (int what = 0; what < ROWS; what++) {
                System.arraycopy(rows[what], 0, endRows[what], 0, MEMBERS);
            }
        }

        void addMember(long name) {
            if (memberCount < MEMBERS) {
                names[memberCount] = name;
                there[memberCount] = true;
                memberCount++;
            }
        }

        void addField(Field land) {
            if (fieldCount < FIELDS) {
                fields[fieldCount] = land;
                fieldCount++;
            }
        }

        void addStorm(Storm come) {
            if (stormCount < STORMS) {
                storms[stormCount] = come;
                stormCount++;
            }
        }

        void endYear(Ending ending) {
            for (int member = 0; member < MEMBERS; member++) {
                endThere[member] = ending.present[member];
                if (!ending.present[member]) {
                    continue;
                }
                if (leaves[member]) {
                    there[member] = false;
                    leaves[member] = false;
                } else {
                    years[member]++;
                }
            }
            copyEndRows(ending.rows);
            rules[RESERVE] = ending.totals[RESERVE_BEHIND];
            stormCount = 0;
            year++;
        }

        boolean isKnown(int member) {
            return member >= 0 && member < memberCount;
        }

        boolean isThere(int member) {
            return isKnown(member) && there[member];
        }

        boolean isFieldKnown(int field) {
            return field >= 0 && field < fieldCount && fields[field] != null;
        }

        boolean stands(int field) {
            return isFieldKnown(field) && isThere(fields[field].owner);
        }

        boolean standsFor(int field, int member) {
            return stands(field) && fields[field].owner == member;
        }

        /** One that is GONE keeps its NAME. */
        int memberNamed(long name) {
            for (int member = 0; member < memberCount; member++) {
                if (names[member] == name) {
                    return member;
                }
            }
            return NONE;
        }

        int hazardAt(int x, int y) {
            return isCell(x, y) ? hazards[y * SIDE + x] : 0;
        }

        void setHazards(int x, int y, int toX, int toY, int hazard) {
            for (int row = y; row <= toY; row++) {
                for (int column = x; column <= toX; column++) {
                    if (isCell(column, row)) {
                        hazards[row * SIDE + column] = hazard;
                    }
                }
            }
        }

        void setSoft(int crop, int soft) {
            if (crop >= 0 && crop < CROPS) {
                softs[crop] = soft;
            }
        }

        int softOf(int crop) {
            return crop >= 0 && crop < CROPS ? softs[crop] : 0;
        }

        long pointsOfField(Field land) {
            return land.coins() * hazardAt(land.x, land.y);
        }

        int membersThere() {
            int count = 0;
            for (int member = 0; member < memberCount; member++) {
                count += there[member] ? 1 : 0;
            }
            return count;
        }

        int fieldsThere() {
            int count = 0;
            for (int i = 0; i < fieldCount; i++) {
                count += stands(i) ? 1 : 0;
            }
            return count;
        }

        int fieldsOf(int member) {
            int count = 0;
            for (int i = 0; i < fieldCount; i++) {
                count += standsFor(i, member) ? 1 : 0;
            }
            return count;
        }

        int fieldsUnder(Storm come) {
            int count = 0;
            for (int i = 0; i < fieldCount; i++) {
                count += stands(i) && come.isOver(fields[i]) ? 1 : 0;
            }
            return count;
        }

        long sumsOf(int member) {
            long all = 0;
            for (int i = 0; i < fieldCount; i++) {
                all += standsFor(i, member) ? fields[i].coins() : 0;
            }
            return all;
        }

        long pointsOf(int member) {
            long all = 0;
            for (int i = 0; i < fieldCount; i++) {
                all += standsFor(i, member) ? pointsOfField(fields[i]) : 0;
            }
            return all;
        }

        long allSums() {
            long all = 0;
            for (int i = 0; i < fieldCount; i++) {
                all += stands(i) ? fields[i].coins() : 0;
            }
            return all;
        }

        long allPoints() {
            long all = 0;
            for (int i = 0; i < fieldCount; i++) {
                all += stands(i) ? pointsOfField(fields[i]) : 0;
            }
            return all;
        }
    }

    /** The latest states, the oldest of them given up where one comes too many. */
    private static final class History {
        private final State[] kept = new State[KEPT];
        private int next;
        int count;

        History() {
            for (int i = 0; i < KEPT; i++) {
                kept[i] = new State();
            }
        }

        void keep(State state) {
            if (kept[next] != null) {
                kept[next].copyFrom(state);
                next = (next + 1) % KEPT;
                count = Math.min(KEPT, count + 1);
            }
        }

        boolean takeBack(State state) {
            int latest = (next + KEPT - 1) % KEPT;
            if (count == 0 || kept[latest] == null) {
                return false;
            }
            state.copyFrom(kept[latest]);
            next = latest;
            count--;
            return true;
        }
    }

    /** THE TAPE cut into words, numbers and signs; what stands nowhere is found out where it is read. */
    private static final class Tokens {
        private static final String QUOTED =
            "member field hazard crop rate reserve retain cover cap goal pay loss years min max if join leave ";
        private static final int QUOTED_COUNT = 18;
        private static final int LONGEST_WORD = 7;
        private static final int LONGEST_NUMBER = 8;

        // A sign's kind is its byte (below 128); a quoted word's is MEMBER and its place among QUOTED.
        static final int MEMBER = 1000;
        static final int FIELD = 1001;
        static final int HAZARD = 1002;
        static final int CROP = 1003;
        static final int RATE_WORD = 1004;
        static final int RESERVE_WORD = 1005;
        static final int RETAIN_WORD = 1006;
        static final int COVER_WORD = 1007;
        static final int CAP_WORD = 1008;
        static final int GOAL_WORD = 1009;
        static final int PAY = 1010;
        static final int LOSS = 1011;
        static final int YEARS = 1012;
        static final int MIN = 1013;
        static final int MAX = 1014;
        static final int IF = 1015;
        static final int NAME = 2000;
        static final int NUMBER = 2001;
        static final int TOO_LONG = 2002;
        static final int END = 2003;

        final int[] kinds = new int[TAPE_BYTES + 1];
        final int[] places = new int[TAPE_BYTES + 1];
        final long[] values = new long[TAPE_BYTES + 1];
        int count;
        private final long[] quoted = new long[QUOTED_COUNT];
        private final Tape tape;

        Tokens(Tape tape) {
            this.tape = tape;
            int word = 0;
            for (int i = 0; i < QUOTED.length(); i++) {
                char sign = QUOTED.charAt(i);
                if (sign == ' ') {
                    word++;
                } else if (word < QUOTED_COUNT) {
                    quoted[word] = packed(quoted[word], sign);
                }
            }
        }

        /** Up to seven letters make one number, never 0. */
        private static long packed(long word, int letter) {
            return word * 32 + (letter - 'a' + 1);
        }

        void cut() {
            count = 0;
            int next;
            for (int at = 0; at < tape.length; at = Math.max(at + 1, next)) {
                next = cutOne(at);
            }
            add(END, tape.length, 0);
        }

        private int cutOne(int at) {
            int sign = signAt(at);
            if (isLetter(sign)) {
                return cutWord(at);
            }
            if (isDigit(sign)) {
                return cutNumber(at);
            }
            if (sign != ' ' && sign != '\n') {
                add(sign, at, 0);
            }
            return at + 1;
        }

        private int cutWord(int from) {
            long word = 0;
            int at = from;
            while (at < tape.length && isLetter(signAt(at))) {
                word = packed(word, signAt(at));
                at++;
            }
            add(at - from > LONGEST_WORD ? TOO_LONG : kindOf(word), from, word);
            return at;
        }

        private int cutNumber(int from) {
            long number = 0;
            int at = from;
            while (at < tape.length && isDigit(signAt(at))) {
                number = number * 10 + (signAt(at) - '0');
                at++;
            }
            add(at - from > LONGEST_NUMBER ? TOO_LONG : NUMBER, from, number);
            return at;
        }

        private int kindOf(long word) {
            for (int i = 0; i < QUOTED_COUNT; i++) {
                if (quoted[i] == word) {
                    return MEMBER + i;
                }
            }
            return NAME;
        }

        private int signAt(int at) {
            return at >= 0 && at < TAPE_BYTES ? tape.bytes[at] : 0;
        }

        private static boolean isLetter(int sign) {
            return sign >= 'a' && sign <= 'z';
        }

        private static boolean isDigit(int sign) {
            return sign >= '0' && sign <= '9';
        }

        private void add(int kind, int place, long value) {
            if (count < kinds.length) {
                kinds[count] = kind;
                places[count] = place;
                values[count] = value;
                count++;
            }
        }
    }

    /** Reads a BOOK, or who JOINS, from THE TAPE into a draft, till the first FAULT. */
    private static final class Reader {
        private static final int OPEN_MOST = 8;

        private final Tokens tokens;
        private final State draft;
        private final Law law;
        private final int[] numbers = new int[5];
        int fault;
        int faultPlace = NONE;
        // The token that is looked at.
        private int at;
        private int kind;
        private int place;
        private long value;
        private int open;

        Reader(Tape tape, State draft, Law law) {
            this.tokens = new Tokens(tape);
            this.draft = draft;
            this.law = law;
        }

        boolean readBook() {
            begin();
            draft.clear();
            law.size = 0;
            for (int lines = 0; lines <= TAPE_BYTES && kind != Tokens.END; lines++) {
                if (!readLine()) {
                    return false;
                }
                if (kind != ';') {
                    return refuse(1);
                }
                step();
            }
            return true;
        }

        /** The draft is the club so far. */
        boolean readJoiner() {
            begin();
            if (!readNewName()) {
                return false;
            }
            for (int i = 0; i <= FIELDS && kind != Tokens.END; i++) {
                if (draft.fieldCount >= FIELDS) {
                    return refuseLand();
                }
                if (!readLand(draft.memberCount - 1)) {
                    return false;
                }
            }
            return true;
        }

        /** The NAME that stands alone; 0, which no MEMBER has, if none does. */
        long readLoneName() {
            tokens.cut();
            boolean alone = tokens.count == 2 && tokens.kinds[0] == Tokens.NAME;
            return alone ? tokens.values[0] : 0;
        }

        private void begin() {
            tokens.cut();
            fault = 0;
            faultPlace = NONE;
            open = 0;
            at = -1;
            step();
        }

        private void step() {
            if (at + 1 < tokens.count) {
                at++;
                kind = tokens.kinds[at];
                place = tokens.places[at];
                value = tokens.values[at];
            }
        }

        private boolean refuse(int why) {
            fault = why;
            faultPlace = place;
            return false;
        }

        private boolean readLine() {
            switch (kind) {
                case Tokens.MEMBER: return readMember();
                case Tokens.FIELD: return readField();
                case Tokens.HAZARD: return readHazard();
                case Tokens.CROP: return readCrop();
                case Tokens.RATE_WORD: return readRule(RATE);
                case Tokens.RESERVE_WORD: return readRule(RESERVE);
                case Tokens.RETAIN_WORD: return readRule(RETAIN);
                case Tokens.COVER_WORD: return readCover();
                case Tokens.CAP_WORD: return readRule(CAP);
                case Tokens.GOAL_WORD: return readRule(GOAL);
                case Tokens.PAY: return readPay();
                default: return refuse(1);
            }
        }

        private boolean readMember() {
            if (draft.memberCount >= MEMBERS) {
                return refuse(5);
            }
            step();
            return readNewName();
        }

        private boolean readNewName() {
            if (kind != Tokens.NAME) {
                return refuse(1);
            }
            if (draft.memberNamed(value) != NONE) {
                return refuse(2);
            }
            if (draft.memberCount >= MEMBERS) {
                return refuse(5);
            }
            draft.addMember(value);
            step();
            return true;
        }

        private boolean readField() {
            if (draft.fieldCount >= FIELDS) {
                return refuse(5);
            }
            step();
            if (kind != Tokens.NAME) {
                return refuse(1);
            }
            int owner = draft.memberNamed(value);
            if (owner == NONE) {
                return refuse(3);
            }
            step();
            return readLand(owner);
        }

        private boolean readLand(int owner) {
            boolean fine = readNumber(0, 0, SIDE - 1) && readNumber(1, 0, SIDE - 1) && readNumber(2, 0, CROPS - 1)
                && readNumber(3, 1, 99) && readNumber(4, 1, 999);
            if (fine) {
                draft.addField(new Field(owner, numbers[0], numbers[1], numbers[2], numbers[3], numbers[4]));
            }
            return fine;
        }

        /** One FIELD too many is told at its first N, where a lesser FAULT may stand. */
        private boolean refuseLand() {
            if (kind != Tokens.NUMBER) {
                return refuse(1);
            }
            return refuse(value >= SIDE ? 4 : 5);
        }

        private boolean readHazard() {
            step();
            boolean fine = readNumber(0, 0, SIDE - 1) && readNumber(1, 0, SIDE - 1)
                && readNumber(2, numbers[0], SIDE - 1) && readNumber(3, numbers[1], SIDE - 1) && readNumber(4, 1, 9);
            if (fine) {
                draft.setHazards(numbers[0], numbers[1], numbers[2], numbers[3], numbers[4]);
            }
            return fine;
        }

        private boolean readCrop() {
            step();
            boolean fine = readNumber(0, 0, CROPS - 1) && readNumber(1, 0, 200);
            if (fine) {
                draft.setSoft(numbers[0], numbers[1]);
            }
            return fine;
        }

        private boolean readCover() {
            boolean fine = readRule(COVER) && readNumber(0, 0, RULE_MOST[BY]);
            if (fine) {
                draft.rules[BY] = numbers[0];
            }
            return fine;
        }

        private boolean readRule(int rule) {
            step();
            boolean fine = readNumber(0, 0, RULE_MOST[rule]);
            if (fine) {
                draft.rules[rule] = numbers[0];
            }
            return fine;
        }

        /** The N that is looked at is kept as the line's number i. */
        private boolean readNumber(int i, int least, int most) {
            if (kind != Tokens.NUMBER || i < 0 || i >= numbers.length) {
                return refuse(1);
            }
            if (value < least || value > most) {
                return refuse(4);
            }
            numbers[i] = (int) value;
            step();
            return true;
        }

        private boolean readPay() {
            if (law.size > 0) {
                return refuse(5);
            }
            step();
            return readSum();
        }

        /** PRODUCTS and their PARTS in one run: a "*" is settled behind its PART, a "+" behind its PRODUCT. */
        private boolean readSum() {
            int times = 0;
            int plus = 0;
            for (int parts = 0; parts <= TAPE_BYTES; parts++) {
                if (!readPart()) {
                    return false;
                }
                if (times != 0) {
                    law.add(-times);
                }
                times = kind == '*' || kind == '/' ? kind : 0;
                if (times == 0) {
                    if (plus != 0) {
                        law.add(-plus);
                    }
                    plus = kind == '+' || kind == '-' ? kind : 0;
                    if (plus == 0) {
                        return true;
                    }
                }
                step();
            }
            return refuse(1);
        }

        private boolean readPart() {
            int first = kind;
            switch (first) {
                case Tokens.NUMBER:
                    law.add((int) value);
                    step();
                    return true;
                case Tokens.LOSS:
                case Tokens.HAZARD:
                case Tokens.YEARS:
                case Tokens.CROP:
                    law.add(-first);
                    step();
                    return true;
                case Tokens.MIN:
                case Tokens.MAX:
                case Tokens.IF:
                    step();
                    if (!readInBrackets(first == Tokens.IF ? 3 : 2)) {
                        return false;
                    }
                    law.add(-first);
                    return true;
                default:
                    return readInBrackets(1);
            }
        }

        private boolean readInBrackets(int sums) {
            if (kind != '(') {
                return refuse(1);
            }
            if (open >= OPEN_MOST) {
                return refuse(5);
            }
            open++;
            step();
            for (int i = 1; i <= sums; i++) {
                if (!readSum()) {
                    return false;
                }
                if (kind != (i < sums ? ',' : ')')) {
                    return refuse(1);
                }
                step();
            }
            open--;
            return true;
        }
    }

    /** What "pay" says, each operation behind what it is done to: numbers as they are, words and signs below 0. */
    private static final class Law {
        // Eight brackets hold at most four values each, and the innermost SUM three more.
        private static final int DEPTH = 40;

        private final int[] codes = new int[TAPE_BYTES];
        private final long[] stack = new long[DEPTH];
        int size;

        void add(int code) {
            if (size < codes.length) {
                codes[size] = code;
                size++;
            }
        }

        void copyFrom(Law other) {
            System.arraycopy(other.codes, 0, codes, 0, TAPE_BYTES);
            size = other.size;
        }

        long value(int loss, int hazard, int years, int crop) {
            int top = 0;
            for (int i = 0; i < size && i < codes.length; i++) {
                int code = codes[i];
                int base = top - operands(code);
                if (base < 0 || base + 2 >= DEPTH) {
                    return 0;
                }
                if (base == top) {
                    stack[base] = leaf(code, loss, hazard, years, crop);
                } else {
                    stack[base] = operate(code, stack[base], stack[base + 1], stack[base + 2]);
                }
                top = base + 1;
            }
            return stack[0];
        }

        private static int operands(int code) {
            switch (code) {
                case -Tokens.IF:
                    return 3;
                case -Tokens.MIN:
                case -Tokens.MAX:
                case -'+':
                case -'-':
                case -'*':
                case -'/':
                    return 2;
                default:
                    return 0;
            }
        }

        private static long leaf(int code, int loss, int hazard, int years, int crop) {
            switch (code) {
                case -Tokens.LOSS: return loss;
                case -Tokens.HAZARD: return hazard;
                case -Tokens.YEARS: return years;
                case -Tokens.CROP: return crop;
                default: return code;
            }
        }

        private static long operate(int code, long a, long b, long c) {
            switch (code) {
                case -'+': return a + b;
                case -'-': return a - b;
                case -'*': return a * b;
                case -'/': return b == 0 ? 0 : a / b;
                case -Tokens.MIN: return a < b ? a : b;
                case -Tokens.MAX: return a > b ? a : b;
                default: return a > 0 ? b : c;
            }
        }
    }

    /** Tells what fields lose and what is paid for it. */
    private static final class Assessor {
        private static final int SLIGHT = 8;

        private final State state;
        private final Law law;
        private final long[] calm = new long[FIELDS];
        private final long[] hit = new long[FIELDS];
        int worstX;
        int worstY;
        long worstLosses;

        Assessor(State state, Law law) {
            this.state = state;
            this.law = law;
        }

        int lost(Field land) {
            int all = 0;
            for (int i = 0; i < state.stormCount; i++) {
                Storm come = state.storms[i];
                if (come != null && come.isOver(land)) {
                    all += harm(land, come.strength);
                }
            }
            return Math.min(100, all);
        }

        private int harm(Field land, int strength) {
            return strength * state.softOf(land.crop) / 100;
        }

        long paid(Field land, int lost) {
            if (law.size == 0) {
                return lost < SLIGHT ? 0 : lost;
            }
            int years = state.isKnown(land.owner) ? state.years[land.owner] : 0;
            long due = law.value(lost, state.hazardAt(land.x, land.y), years, land.crop);
            return Math.max(0, Math.min(lost, due));
        }

        long claim(Field land, int lost) {
            return land.coins() * paid(land, lost) / 100;
        }

        long claimsOf(int member) {
            long all = 0;
            for (int i = 0; i < state.fieldCount; i++) {
                if (state.standsFor(i, member)) {
                    all += claim(state.fields[i], lost(state.fields[i]));
                }
            }
            return all;
        }

        long claimsOfOne(Storm come, int crop) {
            long all = 0;
            for (int i = 0; i < state.fieldCount; i++) {
                if (come != null && state.stands(i) && state.fields[i].crop == crop && come.isOver(state.fields[i])) {
                    all += claim(state.fields[i], Math.min(100, harm(state.fields[i], come.strength)));
                }
            }
            return all;
        }

        void findWorst(int wide, int high, int strength) {
            weigh(strength);
            worstLosses = -1;
            for (int y = 0; y + high <= SIDE; y++) {
                for (int x = 0; x + wide <= SIDE; x++) {
                    long losses = lossesWith(x, y, x + wide - 1, y + high - 1);
                    if (losses > worstLosses) {
                        worstLosses = losses;
                        worstX = x;
                        worstY = y;
                    }
                }
            }
        }

        /** Each FIELD's CLAIM without and with one STORM more. */
        private void weigh(int strength) {
            for (int i = 0; i < FIELDS; i++) {
                calm[i] = 0;
                hit[i] = 0;
                if (state.stands(i)) {
                    Field land = state.fields[i];
                    int lost = lost(land);
                    calm[i] = claim(land, lost);
                    hit[i] = claim(land, Math.min(100, lost + harm(land, strength)));
                }
            }
        }

        private long lossesWith(int x, int y, int toX, int toY) {
            long all = 0;
            for (int i = 0; i < state.fieldCount && i < FIELDS; i++) {
                Field land = state.fields[i];
                if (land != null) {
                    boolean under = land.x >= x && land.x <= toX && land.y >= y && land.y <= toY;
                    all += under ? hit[i] : calm[i];
                }
            }
            return all;
        }
    }

    /** The END of the YEAR as it would be. */
    private static final class Ending {
        private static final int YEARS_WITH_DUES = 5;

        private final State state;
        private final Assessor assessor;
        final long[] totals = new long[TOTALS];
        final long[][] rows = new long[ROWS][MEMBERS];
        final boolean[] present = new boolean[MEMBERS];
        private final boolean[] unheld = new boolean[MEMBERS];
        private final long[] sums = new long[MEMBERS];
        private final long[] points = new long[MEMBERS];
        private final long[] advances = new long[MEMBERS];
        private final long[] parts = new long[MEMBERS];
        private final long[] rests = new long[MEMBERS];

        Ending(State state, Assessor assessor) {
            this.state = state;
            this.assessor = assessor;
        }

        /** The MEMBER absent counts as not there; with NONE all do. */
        void reckon(int absent) {
            clear();
            for (int member = 0; member < MEMBERS; member++) {
                present[member] = member != absent && state.isThere(member);
                gather(member);
            }
            coverAgain();
            long between = totals[ADVANCES] - totals[NET];
            if (between >= 0) {
                spread(between);
            } else {
                bear(-between);
            }
            totals[RESERVE_BEHIND] = state.rules[RESERVE] + totals[TO_RESERVE] - totals[BORNE];
            takeDues();
            balance();
        }

        private void clear() {
            for (int what = 0; what < TOTALS; what++) {
                totals[what] = 0;
            }
            for (int what = 0; what < ROWS; what++) {
                for (int member = 0; member < MEMBERS; member++) {
                    rows[what][member] = 0;
                }
            }
        }

        private void gather(int member) {
            boolean counts = present[member];
            sums[member] = counts ? state.sumsOf(member) : 0;
            points[member] = counts ? state.pointsOf(member) : 0;
            advances[member] = advance(points[member], state.rules[RATE]);
            rows[CLAIMS][member] = counts ? assessor.claimsOf(member) : 0;
            totals[LOSSES] += rows[CLAIMS][member];
            totals[ADVANCES] += advances[member];
        }

        private void coverAgain() {
            long above = Math.max(0, totals[LOSSES] - state.rules[RETAIN]);
            totals[AGAIN] = Math.min(above, state.rules[COVER]) * state.rules[BY] / 100;
            totals[NET] = totals[LOSSES] - totals[AGAIN];
        }

        private void spread(long surplus) {
            long lacking = Math.max(0, goalCoins(state.rules[GOAL], total(sums)) - state.rules[RESERVE]);
            totals[TO_RESERVE] = Math.min(surplus, lacking);
            divide(surplus - totals[TO_RESERVE], advances, present, rows[GIVEN]);
            totals[GIVEN_IN_ALL] = total(rows[GIVEN]);
        }

        private void bear(long lacking) {
            totals[BORNE] = Math.min(lacking, state.rules[RESERVE] / 2);
            callFor(lacking - totals[BORNE]);
            totals[CALLED_IN_ALL] = total(rows[CALLED]);
            divide(lacking - totals[BORNE] - totals[CALLED_IN_ALL], rows[CLAIMS], present, rows[CUT]);
            totals[CUT_IN_ALL] = total(rows[CUT]);
        }

        /** Whoever is held at its cap in a round is out of the next; the round that holds nobody stands. */
        private void callFor(long amount) {
            for (int member = 0; member < MEMBERS; member++) {
                unheld[member] = present[member];
            }
            long left = amount;
            for (int round = 0; round <= MEMBERS; round++) {
                divide(left, points, unheld, parts);
                long held = holdAtCap();
                if (held == NONE) {
                    break;
                }
                left -= held;
            }
            for (int member = 0; member < MEMBERS; member++) {
                if (unheld[member]) {
                    rows[CALLED][member] = parts[member];
                }
            }
        }

        /** What those that are held now pay in all; NONE if nobody is. */
        private long holdAtCap() {
            long held = NONE;
            for (int member = 0; member < MEMBERS; member++) {
                long most = state.rules[CAP] * advances[member];
                if (unheld[member] && parts[member] > most) {
                    unheld[member] = false;
                    rows[CALLED][member] = most;
                    held = Math.max(0, held) + most;
                }
            }
            return held;
        }

        private void takeDues() {
            long allSums = total(sums);
            long allPoints = total(points);
            for (int member = 0; member < MEMBERS; member++) {
                if (!present[member] || !state.leaves[member]) {
                    continue;
                }
                long goal = goalCoins(state.rules[GOAL], allSums);
                long lacking = Math.max(0, goal - totals[RESERVE_BEHIND]);
                long part = allPoints > 0 ? lacking * points[member] / allPoints : 0;
                long missing = Math.max(0, YEARS_WITH_DUES - (state.years[member] + 1));
                long dues = part * missing / YEARS_WITH_DUES;
                rows[DUES][member] = dues;
                totals[DUES_IN_ALL] += dues;
                totals[RESERVE_BEHIND] += dues;
                allSums -= sums[member];
                allPoints -= points[member];
            }
        }

        private void balance() {
            for (int member = 0; member < MEMBERS; member++) {
                long got = rows[CLAIMS][member] - rows[CUT][member] + rows[GIVEN][member];
                rows[BALANCE][member] = got - advances[member] - rows[CALLED][member] - rows[DUES][member];
            }
        }

        long advancesBy(int rate) {
            long all = 0;
            for (int member = 0; member < MEMBERS; member++) {
                all += advance(points[member], rate);
            }
            return all;
        }

        /** How many MEMBERS stand ahead of this one by BALANCE. */
        int ahead(int member) {
            if (member < 0 || member >= MEMBERS) {
                return NONE;
            }
            long own = rows[BALANCE][member];
            int count = 0;
            for (int other = 0; other < MEMBERS; other++) {
                long balance = rows[BALANCE][other];
                if (present[other] && (balance > own || balance == own && other < member)) {
                    count++;
                }
            }
            return count;
        }

        private void divide(long amount, long[] weights, boolean[] among, long[] shares) {
            long all = 0;
            for (int member = 0; member < MEMBERS; member++) {
                all += among[member] ? weights[member] : 0;
            }
            long left = all > 0 ? amount : 0;
            for (int member = 0; member < MEMBERS; member++) {
                long product = among[member] && all > 0 ? amount * weights[member] : 0;
                shares[member] = all > 0 ? product / all : 0;
                rests[member] = all > 0 ? product % all : 0;
                left -= shares[member];
            }
            for (int round = 0; round < MEMBERS && left > 0; round++) {
                int greatest = placeOfGreatest(rests);
                shares[greatest]++;
                rests[greatest] = -1;
                left--;
            }
        }

        private static int placeOfGreatest(long[] numbers) {
            int greatest = 0;
            for (int i = 1; i < MEMBERS; i++) {
                if (numbers[i] > numbers[greatest]) {
                    greatest = i;
                }
            }
            return greatest;
        }

        private static long total(long[] numbers) {
            long all = 0;
            for (int i = 0; i < MEMBERS; i++) {
                all += numbers[i];
            }
            return all;
        }
    }
}
