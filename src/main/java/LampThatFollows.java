/** A lamp that follows: circles of light on her who goes by beats, and what may be asked of them. */
public final class LampThatFollows {
    public static final int BAD = -1, FULL = -2, NONE = -3, STATE = -4;

    private static final int NO_ROW = -9;
    private static final int NOTHING = -11, OUTSIDE = -12, OTHER = -13, BELOW = -14, PARTED = -15;

    private static final int MAX_LAMPS = 6, MAX_BEATS = 16, MAX_RULES = 8, MAX_REPORTS = 6;
    private static final int MAX_TAPE = 200, MAX_DIGITS = 4, MAX_SHIFT = 99, MAX_OPEN = 3;
    private static final int MAX_PLACE = 40, MAX_SIZE = 9, MAX_STEP = 9, MAX_KIND = 5, MAX_PACE = 2;
    private static final int MAX_PLAN = 4, MAX_TIMES = 40, MAX_WORTH = 999;
    private static final int SHEETS = 4, SHELVES = 4, MAX_ITEMS = 40, MAX_SORT = 4, MAX_GO = 20;
    private static final int MAX_TRACE = 30;

    private static final int HAND = 0, STEADY = 1, QUICK = 2, NERVOUS = 3, OLD = 4, TIRED = 5;
    private static final int[] KIND_ABOVE = {-1, HAND, HAND, QUICK, HAND, OLD};

    private static final int KIND = 0, AIM = 1, SIZE = 2, STEP = 3, GOAL = 4, AIM_BEHIND = 5;
    private static final int OUT = 0, RIM = 1, IN = 2;
    private static final int STAYS = 41;
    private static final int NO_LAMP = -1;
    private static final int NO_FAULT = -1;

    private final Rules rules = new Rules();
    private final RuleText text = new RuleText();
    private final Stage now = new Stage(rules);
    private final Stage trial = new Stage(rules);
    private final Reports reports = new Reports();
    private final Rest rest = new Rest(now, trial);
    private final Plans plans = new Plans(now, trial);
    private final Rows rows = new Rows(now, trial);
    private final Sheets sheets = new Sheets();
    private final Shelves shelves = new Shelves(now, sheets);
    private final Thing thing = new Thing();

    private final Rules keptRules = new Rules();
    private final Stage keptStage = new Stage(keptRules);
    private final Reports keptReports = new Reports();
    private boolean isKept;

    public LampThatFollows() {
        isKept = false;
    }

    // ---- lamps, the dance

    public int lamp(int kind, int aim, int size, int step) {
        if (!isLampKind(kind) || !fits(AIM, aim) || !fits(SIZE, size) || !fits(STEP, step)) return BAD;
        return now.addLamp(kind, aim, size, step);
    }

    public int lampOf(int l, int what) {
        if (!now.hasLamp(l)) return BAD;
        if (what >= KIND && what <= STEP) return now.fieldOf(what)[l];
        if (what == GOAL) return now.goalOf(l);
        if (what != AIM_BEHIND) return BAD;
        return now.isOver() ? STAYS : now.aimBehind(l);
    }

    public int change(int l, int what, int v) {
        if (!now.hasLamp(l) || !fits(what, v)) return BAD;
        return now.exchange(l, what, v);
    }

    public int remake(int l, int kind) {
        if (!now.hasLamp(l) || !isLampKind(kind)) return BAD;
        return now.exchange(l, KIND, kind);
    }

    public int dance(int place) {
        return isIn(place, 0, MAX_PLACE) ? now.addBeat(place) : BAD;
    }

    public int danceOf(int b) {
        return now.hasBeat(b) ? now.place[b] : BAD;
    }

    public int steps(int b, int place) {
        if (!now.hasBeat(b) || !isIn(place, 0, MAX_PLACE)) return BAD;
        if (b < now.beat) return STATE;
        int was = now.place[b];
        now.place[b] = place;
        return was;
    }

    public int anew() {
        int was = now.beat;
        now.beat = 0;
        now.score = 0;
        return was;
    }

    public int state(int what) {
        switch (what) {
            case 0: return now.beat;
            case 1: return now.beats;
            case 2: return now.score;
            case 3: return now.isOver() ? 1 : 0;
            default: return BAD;
        }
    }

    // ---- the rules

    public int feed(long eight, int n) {
        if (!isIn(n, 1, 8)) return BAD;
        if (text.length + n > MAX_TAPE) return FULL;
        return text.take(eight, n);
    }

    public int rules() {
        int fault = text.readInto(rules);
        return fault == NO_FAULT ? rules.count : -100 - fault;
    }

    // ---- beats

    public int beat() {
        return now.isOver() ? STATE : now.goBy(NO_LAMP);
    }

    public int in(int sight) {
        return isIn(sight, OUT, IN) ? now.setOf(sight) : BAD;
    }

    public int shows(int l) {
        return now.hasLamp(l) ? rest.worthWith(l, AIM, now.aim[l]) : BAD;
    }

    public int on(int n) {
        return isIn(n, 0, MAX_BEATS) ? rest.worthOfBeats(n) : BAD;
    }

    public int lost(int l) {
        return now.hasLamp(l) ? rest.firstOutWith(l, now.step[l]) : BAD;
    }

    public int crosses(int l, int m) {
        if (!now.hasLamp(l) || !now.hasLamp(m) || l == m) return BAD;
        return rest.crossings(l, m);
    }

    public int sized(int l) {
        return now.hasLamp(l) ? rest.worthiest(l, SIZE, MAX_SIZE) : BAD;
    }

    public int aimed(int l) {
        return now.hasLamp(l) ? rest.worthiest(l, AIM, MAX_PLACE) : BAD;
    }

    public int stepFor(int l) {
        return now.hasLamp(l) ? rest.leastStep(l) : BAD;
    }

    public int who() {
        return rest.fewestLamps();
    }

    // ---- plans

    public int best(int n) {
        if (!isIn(n, 0, MAX_PLAN)) return BAD;
        plans.findBest(n);
        return plans.worth;
    }

    public int ith(int n, int i) {
        if (!isIn(n, 0, MAX_PLAN) || !isIn(i, 0, MAX_PLAN - 1)) return BAD;
        plans.findBest(n);
        return i < plans.length ? plans.first[i] : NONE;
    }

    public int ways(int n) {
        if (!isIn(n, 0, MAX_PLAN)) return BAD;
        plans.findBest(n);
        return plans.ties;
    }

    // ---- a game, reports, lots

    public int game(int n) {
        return isIn(n, 1, MAX_PLAN) ? plans.gameValue(n) : BAD;
    }

    public int play(int n) {
        if (!isIn(n, 1, MAX_PLAN)) return BAD;
        if (now.isOver()) return NONE;
        plans.gameValue(n);
        return plans.opening;
    }

    public int report(int beat, int aim, int size, int sight) {
        if (!isIn(beat, 0, MAX_BEATS - 1) || !isIn(sight, OUT, IN)) return BAD;
        if (!fits(AIM, aim) || !fits(SIZE, size)) return BAD;
        return reports.addReport(beat, aim, size, sight);
    }

    public int forget() {
        int were = reports.count;
        reports.count = 0;
        return were;
    }

    public int span(int what) {
        if (!isIn(what, 0, 2)) return BAD;
        int many = reports.countWalks(NONE);
        if (what == 0) return many;
        if (many == 0) return NONE;
        return what == 1 ? reports.leastStart : reports.leastPace + MAX_PACE;
    }

    public int liar() {
        return reports.leastLiar();
    }

    public int seed(int v) {
        int was = now.z;
        now.z = v;
        return was;
    }

    public int lot() {
        return now.isOver() ? STATE : now.goByLot();
    }

    public int often(int n, int v) {
        if (!isIn(n, 1, MAX_TIMES) || !isIn(v, 0, MAX_WORTH)) return BAD;
        return rest.timesWorth(n, v);
    }

    // ---- rows

    public int prove(int n) {
        if (!isIn(n, 0, MAX_PLAN)) return BAD;
        plans.findBest(n);
        rows.tell(plans.first, plans.length);
        return rows.count;
    }

    public int row(int k, int what) {
        return rows.hasCell(k, what) ? rows.cells[k][what] : NO_ROW;
    }

    public int alterRow(int k, int what, int v) {
        if (!rows.hasCell(k, what)) return NO_ROW;
        int was = rows.cells[k][what];
        rows.cells[k][what] = v;
        return was;
    }

    public int judge() {
        return rows.firstWrong();
    }

    // ---- the host

    public int sheet(int sheet, int sort, int n) {
        if (!Sheets.isSheet(sheet) || !isIn(sort, Sheets.MISSING, MAX_SORT)) return BAD;
        if (sort == Sheets.MISSING) return sheets.renew(sheet, sort, 0);
        if (n > MAX_ITEMS) return BAD;
        return n < 0 ? BELOW : sheets.renew(sheet, sort, n);
    }

    public int write(int sheet, int i, int v) {
        if (!Sheets.isSheet(sheet)) return BAD;
        if (sheets.isMissing(sheet)) return NOTHING;
        return sheets.hasItem(sheet, i) ? sheets.put(sheet, i, v) : OUTSIDE;
    }

    public int item(int sheet, int sort, int i) {
        if (!Sheets.isSheet(sheet) || !isIn(sort, 0, MAX_SORT)) return BAD;
        int refusal = sheets.refusalAs(sheet, sort);
        if (refusal != 0) return refusal;
        return sheets.hasItem(sheet, i) ? sheets.items[sheet][i] : OUTSIDE;
    }

    public int goAll(int sheet, int i, int n) {
        if (!Sheets.isSheet(sheet) || !isIn(n, 0, MAX_GO)) return BAD;
        int refusal = sheets.refusalAs(sheet, Sheets.BYTES);
        return refusal != 0 ? refusal : goByItems(sheet, i, n);
    }

    public int wouldBe(int sheet, int i, int n) {
        if (!Sheets.isSheet(sheet) || !isIn(n, 0, MAX_GO)) return BAD;
        int refusal = sheets.refusalAs(sheet, Sheets.BYTES);
        return refusal != 0 ? refusal : worthOfItems(sheet, i, n);
    }

    public int shelf(int shelf, int what, int n) {
        if (!Shelves.isShelf(shelf)) return BAD;
        switch (what) {
            case 0: return now.hasLamp(n) ? shelves.putLamp(shelf, n) : BAD;
            case 1: return Sheets.isSheet(n) ? shelves.putRow(shelf, n) : BAD;
            case 2: return shelves.putNothing(shelf);
            default: return BAD;
        }
    }

    public int taken(int shelf, int as) {
        if (!Shelves.isShelf(shelf)) return BAD;
        if (isIn(as, HAND, MAX_KIND)) return shelves.asLamp(shelf, as);
        return isIn(as, 10, 10 + MAX_SORT) ? shelves.asRow(shelf, as - 10) : BAD;
    }

    public int act(int shelf, int act, int x) {
        thing.ran = 0;
        if (!Shelves.isShelf(shelf) || !isIn(act, 0, 3) || !shelves.holdsLamp(shelf)) return 0;
        int l = shelves.thing[shelf];
        thing.become(now.kind[l], l, now.size[l]);
        return thing.answer(act, x);
    }

    public int trace(int i) {
        return i >= 0 && i < thing.ran ? thing.bodies[i] : NONE;
    }

    public int many(int what) {
        switch (what) {
            case 0: return now.lamps;
            case 1: return rules.count;
            case 2: return now.beats;
            case 3: return reports.count;
            case 4: return rows.count;
            case 5: return text.length;
            case 6: return thing.ran;
            default: return BAD;
        }
    }

    // ---- kept

    public int keep() {
        keptStage.copyFrom(now);
        keptRules.copyFrom(rules);
        keptReports.copyFrom(reports);
        isKept = true;
        return 1;
    }

    public int again() {
        if (!isKept) return NONE;
        now.copyFrom(keptStage);
        rules.copyFrom(keptRules);
        reports.copyFrom(keptReports);
        return now.lamps;
    }

    private int goByItems(int sheet, int i, int n) {
        int sum = 0;
        for (int k = 0; k < n; k++) {
            if (!sheets.hasItem(sheet, i + k)) return OUTSIDE;
            int act = sheets.items[sheet][i + k];
            if (now.isAct(act) && !now.isOver()) sum += now.goBy(act - 1);
        }
        return sum;
    }

    private int worthOfItems(int sheet, int i, int n) {
        int sum = 0;
        trial.copyFrom(now);
        for (int k = 0; k < n; k++) {
            if (!sheets.hasItem(sheet, i + k)) return OUTSIDE;
            int act = sheets.items[sheet][i + k];
            if (!trial.isAct(act) || trial.isOver()) return STATE;
            sum += trial.goBy(act - 1);
        }
        return sum;
    }

    private static boolean isIn(int v, int least, int most) {
        return v >= least && v <= most;
    }

    private static boolean isLampKind(int kind) {
        // 0 is the hand that all are under; no lamp is just that
        return isIn(kind, STEADY, MAX_KIND);
    }

    private static boolean fits(int what, int v) {
        switch (what) {
            case AIM: return isIn(v, 0, MAX_PLACE);
            case SIZE: return isIn(v, 0, MAX_SIZE);
            case STEP: return isIn(v, 1, MAX_STEP);
            default: return false;
        }
    }

    /** Lamps and the dance as they stand at one time. */
    private static final class Stage {
        private final Rules rules;
        final int[] kind = new int[MAX_LAMPS];
        final int[] aim = new int[MAX_LAMPS];
        final int[] size = new int[MAX_LAMPS];
        final int[] step = new int[MAX_LAMPS];
        final int[] place = new int[MAX_BEATS];
        private final int[] facts = new int[Rules.FACTS];
        int lamps;
        int beats;
        int beat;
        int score;
        int z = 1;

        Stage(Rules rules) {
            this.rules = rules;
        }

        void copyFrom(Stage other) {
            System.arraycopy(other.kind, 0, kind, 0, MAX_LAMPS);
            System.arraycopy(other.aim, 0, aim, 0, MAX_LAMPS);
            System.arraycopy(other.size, 0, size, 0, MAX_LAMPS);
            System.arraycopy(other.step, 0, step, 0, MAX_LAMPS);
            System.arraycopy(other.place, 0, place, 0, MAX_BEATS);
            lamps = other.lamps;
            beats = other.beats;
            beat = other.beat;
            score = other.score;
            z = other.z;
        }

        boolean hasLamp(int l) {
            return l >= 0 && l < lamps;
        }

        boolean hasBeat(int b) {
            return b >= 0 && b < beats;
        }

        boolean isOver() {
            return beat >= beats;
        }

        boolean isAct(int act) {
            return act == 0 || hasLamp(act - 1);
        }

        int addLamp(int newKind, int newAim, int newSize, int newStep) {
            int l = lamps;
            if (l >= MAX_LAMPS) return FULL;
            kind[l] = newKind;
            aim[l] = newAim;
            size[l] = newSize;
            step[l] = newStep;
            lamps = l + 1;
            return l;
        }

        int addBeat(int newPlace) {
            int b = beats;
            if (b >= MAX_BEATS) return FULL;
            place[b] = newPlace;
            beats = b + 1;
            return b;
        }

        int[] fieldOf(int what) {
            switch (what) {
                case AIM: return aim;
                case SIZE: return size;
                case STEP: return step;
                default: return kind;
            }
        }

        int exchange(int l, int what, int v) {
            int[] field = fieldOf(what);
            int was = field[l];
            field[l] = v;
            return was;
        }

        /** Ahead of the first beat she is as at that, behind the last one as at that. */
        private int placeNear(int b) {
            // the document tells no place of a dance without beats; 0 is as good as any
            if (beats == 0) return 0;
            if (b <= 0) return place[0];
            return b < beats ? place[b] : place[beats - 1];
        }

        int goalOf(int l) {
            int seen = beat > 0 ? beat - 1 : 0;
            tellFacts(l, placeNear(seen));
            for (int r = 0; r < rules.count; r++) {
                if (isUnder(kind[l], rules.kind[r]) && rules.holds(r, facts)) {
                    int shift = rules.shift[r];
                    return shift == Rules.WAIT ? STAYS : placeNear(seen + shift);
                }
            }
            return placeNear(seen);
        }

        private void tellFacts(int l, int seenPlace) {
            facts[0] = beat;
            facts[1] = seenPlace;
            facts[2] = aim[l];
            facts[3] = size[l];
            facts[4] = l;
        }

        int aimBehind(int l) {
            int goal = goalOf(l);
            if (goal == STAYS) return aim[l];
            return held(aim[l] + wayOf(l, goal - aim[l]), 0, MAX_PLACE);
        }

        private int wayOf(int l, int d) {
            int most = step[l];
            int fast = held(d, -2 * most, 2 * most);
            switch (kind[l]) {
                case QUICK: return fast;
                case NERVOUS: return fast + Integer.compare(fast, 0);
                case OLD: return held(d / 2, -most, most);
                case TIRED: return beat % 4 == 3 ? 0 : held(d / 2, -most, most);
                default: return held(d, -most, most);
            }
        }

        int sightOf(int l) {
            return sightFor(aim[l], size[l], placeNear(beat - 1));
        }

        int worthOf(int l) {
            int sight = sightOf(l);
            if (sight == IN) return 10 - size[l];
            return sight == RIM ? 1 : 0;
        }

        int setOf(int sight) {
            int set = 0;
            for (int l = 0; l < lamps; l++) {
                if (sightOf(l) == sight) set |= 1 << l;
            }
            return set;
        }

        /** The beat that comes goes by, one lamp being held, or none (-1): what it was worth. */
        int goBy(int heldLamp) {
            for (int l = 0; l < lamps; l++) {
                if (l != heldLamp) aim[l] = aimBehind(l);
            }
            // from here on she is seen at the beat that went by
            beat++;
            int worth = 0;
            for (int l = 0; l < lamps; l++) worth += worthOf(l);
            score += worth;
            return worth;
        }

        int goByLot() {
            if (!hasBeat(beat)) return STATE;
            z = z * 1103515245 + 12345;
            place[beat] = held(place[beat] + (z >>> 16) % 5 - 2, 0, MAX_PLACE);
            return goBy(NO_LAMP);
        }

        static int held(int v, int least, int most) {
            return Math.max(least, Math.min(most, v));
        }

        static int sightFor(int aim, int size, int place) {
            int off = Math.abs(place - aim) - size;
            if (off <= 0) return IN;
            return off == 1 ? RIM : OUT;
        }

        static boolean isUnder(int kind, int above) {
            int k = kind;
            for (int up = 0; up <= MAX_KIND && k >= 0 && k <= MAX_KIND; up++) {
                if (k == above) return true;
                k = KIND_ABOVE[k];
            }
            return false;
        }
    }

    /** The rules as read: of each its kind, what it does, and its condition with signs behind their values. */
    private static final class Rules {
        static final int FACTS = 5;
        static final int WAIT = 1000;
        // numbers stand in the code as they are, all else below 0: -1 to -5 the facts, then these
        static final int LESS = -6, SAME = -7, MORE = -8, NOT = -9, AND = -10, OR = -11;

        final int[] kind = new int[MAX_RULES];
        final int[] shift = new int[MAX_RULES];
        private final int[] end = new int[MAX_RULES];
        private final int[] code = new int[MAX_TAPE];
        private final int[] stack = new int[MAX_TAPE];
        int count;
        private int codes;

        void copyFrom(Rules other) {
            System.arraycopy(other.kind, 0, kind, 0, MAX_RULES);
            System.arraycopy(other.shift, 0, shift, 0, MAX_RULES);
            System.arraycopy(other.end, 0, end, 0, MAX_RULES);
            System.arraycopy(other.code, 0, code, 0, MAX_TAPE);
            count = other.count;
            codes = other.codes;
        }

        void clear() {
            count = 0;
            codes = 0;
        }

        void addCode(int c) {
            if (codes < MAX_TAPE) {
                code[codes] = c;
                codes++;
            }
        }

        /** The rule whose condition is the code that came since the latest one. */
        void addRule(int newKind, int newShift) {
            if (count < MAX_RULES) {
                kind[count] = newKind;
                shift[count] = newShift;
                end[count] = codes;
                count++;
            }
        }

        boolean holds(int r, int[] facts) {
            int from = r > 0 ? end[r - 1] : 0;
            int top = 0;
            for (int i = from; i < end[r]; i++) {
                int c = code[i];
                if (c > LESS) {
                    if (top < MAX_TAPE) stack[top] = valueOf(c, facts);
                    top++;
                } else if (c == NOT) {
                    if (top >= 1) stack[top - 1] = 1 - stack[top - 1];
                } else if (top >= 2) {
                    top--;
                    stack[top - 1] = combine(c, stack[top - 1], stack[top]);
                }
            }
            return top == 0 || stack[0] != 0;
        }

        private static int valueOf(int c, int[] facts) {
            return c >= 0 ? c : facts[-1 - c];
        }

        private static int combine(int sign, int left, int right) {
            switch (sign) {
                case LESS: return left < right ? 1 : 0;
                case SAME: return left == right ? 1 : 0;
                case MORE: return left > right ? 1 : 0;
                case AND: return left & right;
                default: return left | right;
            }
        }
    }

    /** The tape, and how the text on it is read as rules. */
    private static final class RuleText {
        // tokens are 0 to 255 for a byte that is no letter, digit or blank, WORD and more for a known name, or these
        private static final int END = -1, NUMBER = -2, UNKNOWN = -3;
        private static final int WORD = 256, IF = WORD + 6, LEAD = WORD + 7, LAG = WORD + 8, WAIT = WORD + 9;
        private static final int OR = WORD + 10, AND = WORD + 11, NOT = WORD + 12, FACT = WORD + 13, WORDS = 18;

        private final int[] tape = new int[MAX_TAPE];
        private final int[] tokens = new int[MAX_TAPE + 1];
        private final int[] values = new int[MAX_TAPE + 1];
        private final int[] starts = new int[MAX_TAPE + 1];
        private final Rules draft = new Rules();
        int length;
        private int at;
        private int next;

        int take(long eight, int n) {
            for (int i = 0; i < n && length < MAX_TAPE; i++) {
                tape[length] = (int) (eight >>> (8 * i)) & 255;
                length++;
            }
            return length;
        }

        /** Where the fault is; the rules stay as they are then. The tape is used up in any case. */
        int readInto(Rules rules) {
            scan();
            length = 0;
            next = 0;
            draft.clear();
            boolean right = true;
            for (int r = 0; r < MAX_RULES && right && tokens[next] != END; r++) right = readRule();
            // what reads stops on the first token that can't stand there, and what comes behind the last rule can't
            if (!right || tokens[next] != END) return starts[next];
            rules.copyFrom(draft);
            return NO_FAULT;
        }

        private boolean readRule() {
            int kind = tokens[next] - WORD;
            if (kind < HAND || kind > MAX_KIND) return false;
            next++;
            if (tokens[next] == IF) {
                next++;
                if (!readAny(0)) return false;
            }
            int deed = tokens[next];
            if (deed != LEAD && deed != LAG && deed != WAIT) return false;
            next++;
            int shift = Rules.WAIT;
            if (deed != WAIT) {
                if (tokens[next] != NUMBER || values[next] > MAX_SHIFT) return false;
                shift = deed == LEAD ? values[next] : -values[next];
                next++;
            }
            if (tokens[next] != ';') return false;
            next++;
            draft.addRule(kind, shift);
            return true;
        }

        private boolean readAny(int open) {
            if (!readAll(open)) return false;
            for (int i = 0; i < MAX_TAPE && tokens[next] == OR; i++) {
                next++;
                if (!readAll(open)) return false;
                draft.addCode(Rules.OR);
            }
            return true;
        }

        private boolean readAll(int open) {
            if (!readOne(open)) return false;
            for (int i = 0; i < MAX_TAPE && tokens[next] == AND; i++) {
                next++;
                if (!readOne(open)) return false;
                draft.addCode(Rules.AND);
            }
            return true;
        }

        private boolean readOne(int open) {
            boolean not = false;
            for (int i = 0; i < MAX_TAPE && tokens[next] == NOT; i++) {
                next++;
                not = !not;
            }
            if (tokens[next] == '(') {
                if (open >= MAX_OPEN) return false;
                next++;
                if (!readAny(open + 1) || tokens[next] != ')') return false;
                next++;
            } else {
                if (!readValue()) return false;
                int sign = signHere();
                if (sign == 0) return false;
                next++;
                if (!readValue()) return false;
                draft.addCode(sign);
            }
            if (not) draft.addCode(Rules.NOT);
            return true;
        }

        private int signHere() {
            switch (tokens[next]) {
                case '<': return Rules.LESS;
                case '=': return Rules.SAME;
                case '>': return Rules.MORE;
                default: return 0;
            }
        }

        private boolean readValue() {
            int fact = tokens[next] - FACT;
            if (tokens[next] == NUMBER) {
                draft.addCode(values[next]);
            } else if (fact >= 0 && fact < Rules.FACTS) {
                draft.addCode(-1 - fact);
            } else {
                return false;
            }
            next++;
            return true;
        }

        /** All tokens of the tape with their places; the last one is the end, which no reader goes beyond. */
        private void scan() {
            at = 0;
            int count = 0;
            for (int i = 0; i < MAX_TAPE && at < length; i++) {
                if (tape[at] == ' ') {
                    at++;
                } else {
                    starts[count] = at;
                    values[count] = 0;
                    tokens[count] = scanToken(count);
                    count++;
                }
            }
            starts[count] = length;
            tokens[count] = END;
        }

        private int scanToken(int count) {
            int start = at;
            if (isLetter(tape[at])) {
                while (at < length && isLetter(tape[at])) at++;
                return wordFrom(start);
            }
            if (!isDigit(tape[at])) {
                at++;
                return tape[start];
            }
            while (at < length && isDigit(tape[at])) {
                // more digits make no number, so what they come to counts nothing
                if (at - start < MAX_DIGITS) values[count] = values[count] * 10 + tape[at] - '0';
                at++;
            }
            return at - start > MAX_DIGITS ? UNKNOWN : NUMBER;
        }

        private int wordFrom(int start) {
            for (int w = 0; w < WORDS; w++) {
                if (isName(start, nameOf(w))) return WORD + w;
            }
            return UNKNOWN;
        }

        private boolean isName(int start, String name) {
            if (at - start != name.length()) return false;
            for (int i = 0; i < name.length(); i++) {
                if (tape[start + i] != name.charAt(i)) return false;
            }
            return true;
        }

        private static boolean isLetter(int b) {
            return b >= 'a' && b <= 'z';
        }

        private static boolean isDigit(int b) {
            return b >= '0' && b <= '9';
        }

        /** The names in the order of the tokens that they are, the kinds by their numbers first. */
        private static String nameOf(int word) {
            switch (word) {
                case 0: return "hand";
                case 1: return "steady";
                case 2: return "quick";
                case 3: return "nervous";
                case 4: return "old";
                case 5: return "tired";
                case 6: return "if";
                case 7: return "lead";
                case 8: return "lag";
                case 9: return "wait";
                case 10: return "or";
                case 11: return "and";
                case 12: return "not";
                case 13: return "beat";
                case 14: return "place";
                case 15: return "aim";
                case 16: return "size";
                default: return "number";
            }
        }
    }

    /** What is asked about all beats yet to come. */
    private static final class Rest {
        private final Stage now;
        private final Stage trial;
        private final int[] seenBy = new int[MAX_BEATS];

        Rest(Stage now, Stage trial) {
            this.now = now;
            this.trial = trial;
        }

        int worthOfBeats(int n) {
            trial.copyFrom(now);
            int sum = 0;
            for (int i = 0; i < n && !trial.isOver(); i++) sum += trial.goBy(NO_LAMP);
            return sum;
        }

        int worthWith(int l, int what, int v) {
            trial.copyFrom(now);
            trial.exchange(l, what, v);
            int sum = 0;
            for (int b = now.beat; b < now.beats; b++) {
                trial.goBy(NO_LAMP);
                sum += trial.worthOf(l);
            }
            return sum;
        }

        int worthiest(int l, int what, int last) {
            int most = -1;
            int least = 0;
            for (int v = 0; v <= last; v++) {
                int worth = worthWith(l, what, v);
                if (worth > most) {
                    most = worth;
                    least = v;
                }
            }
            return least;
        }

        int firstOutWith(int l, int step) {
            trial.copyFrom(now);
            trial.exchange(l, STEP, step);
            for (int b = now.beat; b < now.beats; b++) {
                trial.goBy(NO_LAMP);
                if (trial.sightOf(l) == OUT) return b;
            }
            return NONE;
        }

        int leastStep(int l) {
            for (int step = 1; step <= MAX_STEP; step++) {
                if (firstOutWith(l, step) == NONE) return step;
            }
            return NONE;
        }

        int crossings(int l, int m) {
            trial.copyFrom(now);
            int times = 0;
            for (int b = now.beat; b < now.beats; b++) {
                int ahead = Integer.compare(trial.aim[l], trial.aim[m]);
                trial.goBy(NO_LAMP);
                int behind = Integer.compare(trial.aim[l], trial.aim[m]);
                if (ahead * behind < 0) times++;
            }
            return times;
        }

        int fewestLamps() {
            trial.copyFrom(now);
            for (int b = now.beat; b < now.beats; b++) {
                trial.goBy(NO_LAMP);
                seenBy[b] = trial.setOf(IN);
            }
            int fewest = NONE;
            for (int set = 0; set < 1 << now.lamps; set++) {
                boolean fewer = fewest == NONE || Integer.bitCount(set) < Integer.bitCount(fewest);
                if (fewer && isNeverDark(set)) fewest = set;
            }
            return fewest;
        }

        private boolean isNeverDark(int set) {
            for (int b = now.beat; b < now.beats; b++) {
                if ((seenBy[b] & set) == 0) return false;
            }
            return true;
        }

        int timesWorth(int n, int v) {
            int times = 0;
            int z = now.z;
            for (int i = 0; i < n; i++) {
                trial.copyFrom(now);
                trial.z = z;
                int sum = 0;
                for (int b = now.beat; b < now.beats; b++) sum += trial.goByLot();
                if (sum >= v) times++;
                z = trial.z;
            }
            return times;
        }
    }

    /** Plans by which lamps are held, and the game of two. */
    private static final class Plans {
        private final Stage now;
        private final Stage trial;
        private final int[][] aims = new int[MAX_PLAN][MAX_LAMPS];
        private final int[] acts = new int[MAX_PLAN];
        final int[] first = new int[MAX_PLAN];
        int length;
        int worth;
        int ties;
        int opening;

        Plans(Stage now, Stage trial) {
            this.now = now;
            this.trial = trial;
        }

        void findBest(int n) {
            trial.copyFrom(now);
            length = Math.min(n, now.beats - now.beat);
            worth = -1;
            ties = 0;
            search(this, 0, 0);
        }

        /** All plans that begin with the acts below depth, which were worth so much; lesser acts come first. */
        private static void search(Plans plans, int depth, int sum) {
            if (depth >= plans.length || depth >= MAX_PLAN) {
                plans.weigh(sum);
                return;
            }
            for (int act = 0; act <= plans.now.lamps; act++) {
                plans.acts[depth] = act;
                plans.keepAims(depth);
                int gain = plans.trial.goBy(act - 1);
                search(plans, depth + 1, sum + gain);
                plans.takeBack(depth);
            }
        }

        private void weigh(int sum) {
            if (sum > worth) {
                worth = sum;
                ties = 0;
                System.arraycopy(acts, 0, first, 0, MAX_PLAN);
            }
            if (sum == worth) ties++;
        }

        int gameValue(int n) {
            trial.copyFrom(now);
            length = Math.min(n, now.beats - now.beat);
            opening = 0;
            return valueFrom(this, 0);
        }

        private static int valueFrom(Plans plans, int depth) {
            if (depth >= plans.length || depth >= MAX_PLAN) return 0;
            boolean wantsMost = depth % 2 == 0;
            int value = 0;
            for (int act = 0; act <= plans.now.lamps; act++) {
                plans.keepAims(depth);
                int gain = plans.trial.goBy(act - 1);
                int sum = gain + valueFrom(plans, depth + 1);
                plans.takeBack(depth);
                if (act == 0 || (wantsMost ? sum > value : sum < value)) {
                    value = sum;
                    if (depth == 0) plans.opening = act;
                }
            }
            return value;
        }

        private void keepAims(int depth) {
            System.arraycopy(trial.aim, 0, aims[depth], 0, MAX_LAMPS);
        }

        private void takeBack(int depth) {
            System.arraycopy(aims[depth], 0, trial.aim, 0, MAX_LAMPS);
            trial.beat--;
        }
    }

    /** What circles showed in the dark, and the walks by which that may be. */
    private static final class Reports {
        private final int[] beat = new int[MAX_REPORTS];
        private final int[] aim = new int[MAX_REPORTS];
        private final int[] size = new int[MAX_REPORTS];
        private final int[] sight = new int[MAX_REPORTS];
        int count;
        int leastStart;
        int leastPace;

        void copyFrom(Reports other) {
            System.arraycopy(other.beat, 0, beat, 0, MAX_REPORTS);
            System.arraycopy(other.aim, 0, aim, 0, MAX_REPORTS);
            System.arraycopy(other.size, 0, size, 0, MAX_REPORTS);
            System.arraycopy(other.sight, 0, sight, 0, MAX_REPORTS);
            count = other.count;
        }

        int addReport(int newBeat, int newAim, int newSize, int newSight) {
            int r = count;
            if (r >= MAX_REPORTS) return FULL;
            beat[r] = newBeat;
            aim[r] = newAim;
            size[r] = newSize;
            sight[r] = newSight;
            count = r + 1;
            return r;
        }

        /** How many walks fit all reports but one, which may be none (below 0). */
        int countWalks(int but) {
            int many = 0;
            for (int start = 0; start <= MAX_PLACE; start++) {
                for (int pace = -MAX_PACE; pace <= MAX_PACE; pace++) {
                    if (fitsAll(start, pace, but)) {
                        if (many == 0) {
                            leastStart = start;
                            leastPace = pace;
                        }
                        many++;
                    }
                }
            }
            return many;
        }

        private boolean fitsAll(int start, int pace, int but) {
            for (int r = 0; r < count; r++) {
                int place = Stage.held(start + beat[r] * pace, 0, MAX_PLACE);
                if (r != but && Stage.sightFor(aim[r], size[r], place) != sight[r]) return false;
            }
            return true;
        }

        int leastLiar() {
            if (countWalks(NONE) > 0) return NONE;
            for (int r = 0; r < count; r++) {
                if (countWalks(r) > 0) return r;
            }
            return NONE;
        }
    }

    /** Rows that tell a plan, and the reader who takes them as one. */
    private static final class Rows {
        private static final int ACT = 0, WORTH = 1, INSIDE = 2, CELLS = 3;

        private final Stage now;
        private final Stage trial;
        final int[][] cells = new int[MAX_PLAN][CELLS];
        int count;

        Rows(Stage now, Stage trial) {
            this.now = now;
            this.trial = trial;
        }

        boolean hasCell(int k, int what) {
            return k >= 0 && k < count && what >= 0 && what < CELLS;
        }

        void tell(int[] acts, int n) {
            trial.copyFrom(now);
            count = Math.min(n, MAX_PLAN);
            for (int k = 0; k < count; k++) {
                cells[k][ACT] = acts[k];
                cells[k][WORTH] = trial.goBy(acts[k] - 1);
                cells[k][INSIDE] = trial.setOf(IN);
            }
        }

        int firstWrong() {
            trial.copyFrom(now);
            for (int k = 0; k < count; k++) {
                int act = cells[k][ACT];
                if (trial.isOver() || !trial.isAct(act)) return k + 1;
                int worth = trial.goBy(act - 1);
                if (cells[k][WORTH] != worth || cells[k][INSIDE] != trial.setOf(IN)) return k + 1;
            }
            return 0;
        }
    }

    /** The host's rows of numbers. */
    private static final class Sheets {
        static final int MISSING = -1, BYTES = 0, SHORTS = 1, BOOLEANS = 4;

        final int[] sort = {MISSING, MISSING, MISSING, MISSING};
        final int[] length = new int[SHEETS];
        // longs come from ints and are only asked for their lowest 32 bits, so an int holds any item
        final int[][] items = new int[SHEETS][MAX_ITEMS];

        static boolean isSheet(int sheet) {
            return sheet >= 0 && sheet < SHEETS;
        }

        boolean isMissing(int sheet) {
            return sort[sheet] == MISSING;
        }

        boolean hasItem(int sheet, int i) {
            return i >= 0 && i < length[sheet];
        }

        int renew(int sheet, int newSort, int n) {
            sort[sheet] = newSort;
            length[sheet] = Stage.held(n, 0, MAX_ITEMS);
            for (int i = 0; i < MAX_ITEMS; i++) items[sheet][i] = 0;
            return 1;
        }

        int put(int sheet, int i, int v) {
            items[sheet][i] = narrowed(sort[sheet], v);
            return 1;
        }

        /** 0: it is a row of that sort. */
        int refusalAs(int sheet, int asSort) {
            if (isMissing(sheet)) return NOTHING;
            return sort[sheet] == asSort ? 0 : OTHER;
        }

        private static int narrowed(int sort, int v) {
            switch (sort) {
                case BYTES: return (byte) v;
                case SHORTS: return (short) v;
                case BOOLEANS: return v != 0 ? 1 : 0;
                default: return v;
            }
        }
    }

    /** What the host holds without knowing what it is. */
    private static final class Shelves {
        private static final int EMPTY = 0, LAMP = 1, ROW = 2;

        private final Stage now;
        private final Sheets sheets;
        private final int[] holds = new int[SHELVES];
        // a lamp's number, or the sort of a row
        final int[] thing = new int[SHELVES];
        // a row stays on its shelf when its sheet becomes another one, so its length is kept here
        private final int[] length = new int[SHELVES];

        Shelves(Stage now, Sheets sheets) {
            this.now = now;
            this.sheets = sheets;
        }

        static boolean isShelf(int shelf) {
            return shelf >= 0 && shelf < SHELVES;
        }

        int putLamp(int shelf, int l) {
            holds[shelf] = LAMP;
            thing[shelf] = l;
            return 1;
        }

        int putRow(int shelf, int sheet) {
            if (sheets.isMissing(sheet)) return putNothing(shelf);
            holds[shelf] = ROW;
            thing[shelf] = sheets.sort[sheet];
            length[shelf] = sheets.length[sheet];
            return 1;
        }

        int putNothing(int shelf) {
            holds[shelf] = EMPTY;
            return 1;
        }

        boolean holdsLamp(int shelf) {
            // lamps may have gone since, when what was kept came again
            return holds[shelf] == LAMP && now.hasLamp(thing[shelf]);
        }

        int asLamp(int shelf, int kind) {
            if (holdsLamp(shelf)) {
                int l = thing[shelf];
                return Stage.isUnder(now.kind[l], kind) ? l : OTHER;
            }
            return holds[shelf] == ROW ? OTHER : NOTHING;
        }

        int asRow(int shelf, int sort) {
            if (holds[shelf] == ROW) return thing[shelf] == sort ? length[shelf] : OTHER;
            return holdsLamp(shelf) ? OTHER : NOTHING;
        }
    }

    /** A lamp as a thing of its kind: an act runs the bodies that its kind has, then those of the kinds above. */
    private static final class Thing {
        final int[] bodies = new int[MAX_TRACE];
        int ran;
        private int kind;
        private int n;
        private int a;
        private boolean parted;

        void become(int newKind, int number, int size) {
            kind = newKind;
            n = number;
            a = size;
            parted = false;
        }

        int answer(int act, int x) {
            int answer;
            switch (act) {
                case 0: answer = aims(x); break;
                case 1: answer = swings(x); break;
                case 2: answer = dims(x); break;
                default: answer = follows(x);
            }
            return parted ? PARTED : answer;
        }

        private void begin(int body) {
            if (ran < MAX_TRACE) {
                bodies[ran] = body;
                ran++;
            }
        }

        private int aims(int x) {
            if (kind == STEADY) begin(20);
            if (kind == NERVOUS) begin(50);
            begin(10);
            int aimed = x + a;
            if (kind == STEADY) return aimed * 2;
            return kind == NERVOUS ? aimed - 1 : aimed;
        }

        private int swings(int x) {
            boolean quick = kind == QUICK || kind == NERVOUS;
            if (quick) begin(30);
            if (kind == TIRED) begin(60);
            begin(11);
            int swung = aims(x) - n;
            if (quick) return swung ^ n;
            return kind == TIRED ? 0 - swung : swung;
        }

        private int dims(int x) {
            boolean old = kind == OLD || kind == TIRED;
            if (kind == TIRED) begin(61);
            if (old) begin(40);
            begin(12);
            if (a == n) {
                // no other body begins then
                parted = true;
                return 0;
            }
            int dimmed = (old ? x - 3 : x) / (a - n);
            return kind == TIRED ? dimmed - aims(n) : dimmed;
        }

        private int follows(int x) {
            if (kind == NERVOUS) begin(51);
            begin(13);
            int followed = swings(x) ^ a;
            return kind == NERVOUS ? followed + dims(a) : followed;
        }
    }
}
