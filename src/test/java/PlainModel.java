import java.util.ArrayList;
import java.util.List;
import java.util.function.Predicate;
import java.util.regex.Matcher;
import java.util.regex.Pattern;

/** The document told a second time, by other means and without a thought for room: what runs are held against. */
final class PlainModel {
    private static final List<String> KINDS = List.of("hand", "steady", "quick", "nervous", "old", "tired");

    record Lamp(int kind, int aim, int size, int step) {
        Lamp withAim(int v) {
            return new Lamp(kind, v, size, step);
        }

        Lamp with(int what, int v) {
            return new Lamp(what == 0 ? v : kind, what == 1 ? v : aim, what == 2 ? v : size, what == 3 ? v : step);
        }

        int sight(int place) {
            if (place >= aim - size && place <= aim + size) return 2;
            return place == aim - size - 1 || place == aim + size + 1 ? 1 : 0;
        }

        int worth(int place) {
            return new int[] {0, 1, 10 - size}[sight(place)];
        }
    }

    record Facts(int beat, int place, int aim, int size, int number) { }

    record Rule(int kind, Predicate<Facts> holds, String deed, int n) { }

    record Report(int beat, int aim, int size, int sight) { }

    /** Never changed once it is made. */
    record Scene(List<Lamp> lamps, List<Integer> places, int beat, int score, int z, List<Rule> rules) {
        boolean over() {
            return beat >= places.size();
        }

        int at(int b) {
            return places.isEmpty() ? 0 : places.get(Math.min(Math.max(b, 0), places.size() - 1));
        }

        int seenAt() {
            return Math.max(beat - 1, 0);
        }

        Integer goal(int l) {
            Lamp lamp = lamps.get(l);
            Facts facts = new Facts(beat, at(seenAt()), lamp.aim, lamp.size, l);
            for (Rule rule : rules) {
                if (!isA(lamp.kind, rule.kind) || !rule.holds.test(facts)) continue;
                if (rule.deed.equals("wait")) return null;
                return at(rule.deed.equals("lead") ? seenAt() + rule.n : seenAt() - rule.n);
            }
            return at(seenAt());
        }

        int aimBehind(int l) {
            Lamp lamp = lamps.get(l);
            Integer goal = goal(l);
            if (goal == null) return lamp.aim;
            int d = goal - lamp.aim;
            int way;
            if (lamp.kind == 2 || lamp.kind == 3) {
                way = Math.abs(d) > 2 * lamp.step ? Integer.signum(d) * 2 * lamp.step : d;
                if (lamp.kind == 3) way += Integer.signum(way);
            } else {
                if (lamp.kind >= 4) d = Integer.signum(d) * (Math.abs(d) >> 1);
                way = Math.abs(d) > lamp.step ? Integer.signum(d) * lamp.step : d;
                if (lamp.kind == 5 && beat % 4 == 3) way = 0;
            }
            return Math.max(0, Math.min(40, lamp.aim + way));
        }

        /** act: 1 more than the lamp that is held. */
        Scene after(int act) {
            List<Lamp> gone = new ArrayList<>();
            for (int l = 0; l < lamps.size(); l++) gone.add(act == l + 1 ? lamps.get(l) : lamps.get(l).withAim(aimBehind(l)));
            int worth = 0;
            for (Lamp lamp : gone) worth += lamp.worth(places.get(beat));
            return new Scene(gone, places, beat + 1, score + worth, z, rules);
        }

        Scene slipped() {
            int y = z * 1103515245 + 12345;
            List<Integer> all = new ArrayList<>(places);
            all.set(beat, Math.max(0, Math.min(40, all.get(beat) + (y >>> 16) % 5 - 2)));
            return new Scene(lamps, all, beat, score, y, rules);
        }

        Scene withLamps(List<Lamp> all) {
            return new Scene(all, places, beat, score, z, rules);
        }

        Scene withLamp(int l, Lamp lamp) {
            List<Lamp> all = new ArrayList<>(lamps);
            all.set(l, lamp);
            return withLamps(all);
        }

        Scene withPlaces(List<Integer> all) {
            return new Scene(lamps, all, beat, score, z, rules);
        }

        Scene withZ(int v) {
            return new Scene(lamps, places, beat, score, v, rules);
        }

        /** How it is behind each beat of the rest. */
        List<Scene> rest() {
            List<Scene> all = new ArrayList<>();
            for (Scene s = this; !s.over();) {
                s = s.after(0);
                all.add(s);
            }
            return all;
        }

        int inside(int sight) {
            int set = 0;
            for (int l = 0; l < lamps.size(); l++) if (lamps.get(l).sight(at(beat - 1)) == sight) set += 1 << l;
            return set;
        }
    }

    static boolean isA(int kind, int above) {
        return above == 0 || kind == above || kind == 3 && above == 2 || kind == 5 && above == 4;
    }

    private Scene now = new Scene(List.of(), List.of(), 0, 0, 1, List.of());
    private List<Report> reports = List.of();
    private Scene keptScene;
    private List<Report> keptReports;
    private String tape = "";
    private int[][] rows = {};
    private final Object[] sheets = new Object[4];
    private final Object[] shelves = new Object[4];
    private List<Integer> trace = new ArrayList<>();

    private static boolean in(int v, int a, int b) {
        return v >= a && v <= b;
    }

    private boolean isLamp(int l) {
        return in(l, 0, now.lamps.size() - 1);
    }

    int lamp(int kind, int aim, int size, int step) {
        if (!in(kind, 1, 5) || !in(aim, 0, 40) || !in(size, 0, 9) || !in(step, 1, 9)) return -1;
        if (now.lamps.size() == 6) return -2;
        List<Lamp> all = new ArrayList<>(now.lamps);
        all.add(new Lamp(kind, aim, size, step));
        now = now.withLamps(all);
        return all.size() - 1;
    }

    int lampOf(int l, int what) {
        if (!isLamp(l) || !in(what, 0, 5)) return -1;
        Lamp lamp = now.lamps.get(l);
        Integer goal = now.goal(l);
        return new int[] {lamp.kind, lamp.aim, lamp.size, lamp.step, goal == null ? 41 : goal,
            now.over() ? 41 : now.aimBehind(l)}[what];
    }

    int change(int l, int what, int v) {
        if (!isLamp(l) || !in(what, 1, 3)) return -1;
        if (!in(v, what == 3 ? 1 : 0, what == 1 ? 40 : 9)) return -1;
        int was = lampOf(l, what);
        now = now.withLamp(l, now.lamps.get(l).with(what, v));
        return was;
    }

    int remake(int l, int kind) {
        if (!isLamp(l) || !in(kind, 1, 5)) return -1;
        int was = lampOf(l, 0);
        now = now.withLamp(l, now.lamps.get(l).with(0, kind));
        return was;
    }

    int dance(int place) {
        if (!in(place, 0, 40)) return -1;
        if (now.places.size() == 16) return -2;
        List<Integer> all = new ArrayList<>(now.places);
        all.add(place);
        now = now.withPlaces(all);
        return all.size() - 1;
    }

    int danceOf(int b) {
        return in(b, 0, now.places.size() - 1) ? now.places.get(b) : -1;
    }

    int steps(int b, int place) {
        if (!in(b, 0, now.places.size() - 1) || !in(place, 0, 40)) return -1;
        if (b < now.beat) return -4;
        List<Integer> all = new ArrayList<>(now.places);
        int was = all.set(b, place);
        now = now.withPlaces(all);
        return was;
    }

    int anew() {
        int was = now.beat;
        now = new Scene(now.lamps, now.places, 0, 0, now.z, now.rules);
        return was;
    }

    int state(int what) {
        if (!in(what, 0, 3)) return -1;
        return new int[] {now.beat, now.places.size(), now.score, now.over() ? 1 : 0}[what];
    }

    int feed(long eight, int n) {
        if (!in(n, 1, 8)) return -1;
        if (tape.length() + n > 200) return -2;
        for (int i = 0; i < n; i++) tape += (char) (eight >> 8 * i & 255);
        return tape.length();
    }

    // ---- the rules, read by a pattern for tokens and functions for conditions

    private record Token(String text, int at) { }

    private static final class Fault extends RuntimeException {
        private static final long serialVersionUID = 1;
        final int at;

        Fault(int at) {
            this.at = at;
        }
    }

    private List<Token> tokens;
    private int next;

    private Token peek() {
        return tokens.get(next);
    }

    private boolean takes(String text) {
        if (!peek().text.equals(text)) return false;
        next++;
        return true;
    }

    private String takeOf(String pattern) {
        if (!peek().text.matches(pattern)) throw new Fault(peek().at);
        return tokens.get(next++).text;
    }

    int rules() {
        tokens = new ArrayList<>();
        Matcher m = Pattern.compile("[a-z]+|[0-9]+|[^ ]", Pattern.DOTALL).matcher(tape);
        while (m.find()) tokens.add(new Token(m.group(), m.start()));
        tokens.add(new Token("", tape.length()));
        tape = "";
        next = 0;
        List<Rule> all = new ArrayList<>();
        try {
            while (!peek().text.isEmpty()) {
                if (all.size() == 8) throw new Fault(peek().at);
                all.add(rule());
            }
        } catch (Fault fault) {
            return -100 - fault.at;
        }
        now = new Scene(now.lamps, now.places, now.beat, now.score, now.z, all);
        return all.size();
    }

    private Rule rule() {
        int kind = KINDS.indexOf(takeOf(String.join("|", KINDS)));
        Predicate<Facts> holds = takes("if") ? any(0) : f -> true;
        String deed = takeOf("lead|lag|wait");
        int n = deed.equals("wait") ? 0 : Integer.parseInt(takeOf("0{0,2}[0-9]{1,2}"));
        takeOf(";");
        return new Rule(kind, holds, deed, n);
    }

    private Predicate<Facts> any(int open) {
        Predicate<Facts> p = all(open);
        while (takes("or")) p = p.or(all(open));
        return p;
    }

    private Predicate<Facts> all(int open) {
        Predicate<Facts> p = one(open);
        while (takes("and")) p = p.and(one(open));
        return p;
    }

    private Predicate<Facts> one(int open) {
        if (takes("not")) return one(open).negate();
        if (open < 3 && takes("(")) {
            Predicate<Facts> p = any(open + 1);
            takeOf("\\)");
            return p;
        }
        String value = "beat|place|aim|size|number|[0-9]{1,4}";
        String left = takeOf(value);
        String sign = takeOf("[<=>]");
        String right = takeOf(value);
        return f -> {
            int c = Integer.compare(valueOf(left, f), valueOf(right, f));
            return sign.equals("<") ? c < 0 : sign.equals("=") ? c == 0 : c > 0;
        };
    }

    private static int valueOf(String text, Facts f) {
        return switch (text) {
            case "beat" -> f.beat;
            case "place" -> f.place;
            case "aim" -> f.aim;
            case "size" -> f.size;
            case "number" -> f.number;
            default -> Integer.parseInt(text);
        };
    }

    // ---- beats

    private int goBy(int act) {
        int was = now.score;
        now = now.after(act);
        return now.score - was;
    }

    int beat() {
        return now.over() ? -4 : goBy(0);
    }

    int in(int sight) {
        return in(sight, 0, 2) ? now.inside(sight) : -1;
    }

    private static int worthIn(Scene from, int l) {
        return from.rest().stream().mapToInt(s -> s.lamps.get(l).worth(s.at(s.beat - 1))).sum();
    }

    int shows(int l) {
        return isLamp(l) ? worthIn(now, l) : -1;
    }

    int on(int n) {
        if (!in(n, 0, 16)) return -1;
        List<Scene> rest = now.rest();
        int k = Math.min(n, rest.size());
        return k == 0 ? 0 : rest.get(k - 1).score - now.score;
    }

    private static int lostIn(Scene from, int l) {
        for (Scene s : from.rest()) if (s.lamps.get(l).sight(s.at(s.beat - 1)) == 0) return s.beat - 1;
        return -3;
    }

    int lost(int l) {
        return isLamp(l) ? lostIn(now, l) : -1;
    }

    int crosses(int l, int m) {
        if (!isLamp(l) || !isLamp(m) || l == m) return -1;
        int times = 0;
        Scene ahead = now;
        for (Scene s : now.rest()) {
            int a = ahead.lamps.get(l).aim;
            int b = ahead.lamps.get(m).aim;
            int c = s.lamps.get(l).aim;
            int d = s.lamps.get(m).aim;
            if (a < b && c > d || b < a && d > c) times++;
            ahead = s;
        }
        return times;
    }

    private int bestWith(int l, int what, int last) {
        if (!isLamp(l)) return -1;
        int best = last;
        for (int v = last; v >= 0; v--) {
            int w = worthIn(now.withLamp(l, now.lamps.get(l).with(what, v)), l);
            if (w >= worthIn(now.withLamp(l, now.lamps.get(l).with(what, best)), l)) best = v;
        }
        return best;
    }

    int sized(int l) {
        return bestWith(l, 2, 9);
    }

    int aimed(int l) {
        return bestWith(l, 1, 40);
    }

    int stepFor(int l) {
        if (!isLamp(l)) return -1;
        for (int step = 1; step <= 9; step++) {
            if (lostIn(now.withLamp(l, now.lamps.get(l).with(3, step)), l) == -3) return step;
        }
        return -3;
    }

    int who() {
        for (int many = 0; many <= now.lamps.size(); many++) {
            for (int set = 0; set < 1 << now.lamps.size(); set++) {
                int s = set;
                if (Integer.bitCount(set) == many && now.rest().stream().allMatch(r -> (r.inside(2) & s) != 0)) return set;
            }
        }
        return -3;
    }

    // ---- plans, all of them one after the other

    private List<int[]> plans(int n) {
        int k = Math.min(n, now.places.size() - now.beat);
        List<int[]> all = new ArrayList<>();
        all.add(new int[0]);
        for (int i = 0; i < k; i++) {
            List<int[]> longer = new ArrayList<>();
            for (int[] plan : all) {
                for (int act = 0; act <= now.lamps.size(); act++) {
                    int[] p = java.util.Arrays.copyOf(plan, i + 1);
                    p[i] = act;
                    longer.add(p);
                }
            }
            all = longer;
        }
        return all;
    }

    private int worthOf(int[] plan) {
        Scene s = now;
        for (int act : plan) s = s.after(act);
        return s.score - now.score;
    }

    int best(int n) {
        return in(n, 0, 4) ? plans(n).stream().mapToInt(this::worthOf).max().getAsInt() : -1;
    }

    private int[] first(int n) {
        int most = best(n);
        return plans(n).stream().filter(p -> worthOf(p) == most).findFirst().get();
    }

    int ith(int n, int i) {
        if (!in(n, 0, 4) || !in(i, 0, 3)) return -1;
        int[] plan = first(n);
        return i < plan.length ? plan[i] : -3;
    }

    int ways(int n) {
        if (!in(n, 0, 4)) return -1;
        int most = best(n);
        return (int) plans(n).stream().filter(p -> worthOf(p) == most).count();
    }

    private int value(Scene s, int n, boolean first) {
        if (n == 0 || s.over()) return s.score;
        int value = first ? Integer.MIN_VALUE : Integer.MAX_VALUE;
        for (int act = 0; act <= s.lamps.size(); act++) {
            int v = value(s.after(act), n - 1, !first);
            value = first ? Math.max(value, v) : Math.min(value, v);
        }
        return value;
    }

    int game(int n) {
        return in(n, 1, 4) ? value(now, n, true) - now.score : -1;
    }

    int play(int n) {
        if (!in(n, 1, 4)) return -1;
        if (now.over()) return -3;
        int act = 0;
        while (value(now.after(act), n - 1, false) != value(now, n, true)) act++;
        return act;
    }

    // ---- reports, lots

    int report(int beat, int aim, int size, int sight) {
        if (!in(beat, 0, 15) || !in(aim, 0, 40) || !in(size, 0, 9) || !in(sight, 0, 2)) return -1;
        if (reports.size() == 6) return -2;
        reports = new ArrayList<>(reports);
        reports.add(new Report(beat, aim, size, sight));
        return reports.size() - 1;
    }

    int forget() {
        int were = reports.size();
        reports = List.of();
        return were;
    }

    private static List<int[]> walks(List<Report> told) {
        List<int[]> all = new ArrayList<>();
        for (int start = 0; start <= 40; start++) {
            for (int pace = -2; pace <= 2; pace++) {
                int s = start;
                int p = pace;
                if (told.stream().allMatch(r -> new Lamp(1, r.aim, r.size, 1)
                        .sight(Math.min(40, Math.max(0, s + r.beat * p))) == r.sight)) {
                    all.add(new int[] {start, pace});
                }
            }
        }
        return all;
    }

    int span(int what) {
        if (!in(what, 0, 2)) return -1;
        List<int[]> all = walks(reports);
        if (what == 0) return all.size();
        if (all.isEmpty()) return -3;
        return what == 1 ? all.get(0)[0] : all.get(0)[1] + 2;
    }

    int liar() {
        if (!walks(reports).isEmpty()) return -3;
        for (int r = 0; r < reports.size(); r++) {
            List<Report> others = new ArrayList<>(reports);
            others.remove(r);
            if (!walks(others).isEmpty()) return r;
        }
        return -3;
    }

    int seed(int v) {
        int was = now.z;
        now = now.withZ(v);
        return was;
    }

    int lot() {
        if (now.over()) return -4;
        now = now.slipped();
        return goBy(0);
    }

    int often(int n, int v) {
        if (!in(n, 1, 40) || !in(v, 0, 999)) return -1;
        int times = 0;
        int z = now.z;
        for (int i = 0; i < n; i++) {
            Scene s = now.withZ(z);
            while (!s.over()) s = s.slipped().after(0);
            if (s.score - now.score >= v) times++;
            z = s.z;
        }
        return times;
    }

    // ---- rows

    int prove(int n) {
        if (!in(n, 0, 4)) return -1;
        int[] plan = first(n);
        rows = new int[plan.length][];
        Scene s = now;
        for (int k = 0; k < plan.length; k++) {
            Scene t = s.after(plan[k]);
            rows[k] = new int[] {plan[k], t.score - s.score, t.inside(2)};
            s = t;
        }
        return rows.length;
    }

    int row(int k, int what) {
        return in(k, 0, rows.length - 1) && in(what, 0, 2) ? rows[k][what] : -9;
    }

    int alterRow(int k, int what, int v) {
        int was = row(k, what);
        if (in(k, 0, rows.length - 1) && in(what, 0, 2)) rows[k][what] = v;
        return was;
    }

    int judge() {
        Scene s = now;
        for (int k = 0; k < rows.length; k++) {
            if (s.over() || !in(rows[k][0], 0, s.lamps.size())) return k + 1;
            Scene t = s.after(rows[k][0]);
            if (rows[k][1] != t.score - s.score || rows[k][2] != t.inside(2)) return k + 1;
            s = t;
        }
        return 0;
    }

    // ---- the host: rows are arrays, shelves hold anything, things are of classes

    private static int sortOf(Object row) {
        if (row instanceof byte[]) return 0;
        if (row instanceof short[]) return 1;
        if (row instanceof int[]) return 2;
        return row instanceof long[] ? 3 : 4;
    }

    int sheet(int sheet, int sort, int n) {
        if (!in(sheet, 0, 3) || !in(sort, -1, 4)) return -1;
        if (sort >= 0 && n > 40) return -1;
        if (sort >= 0 && n < 0) return -14;
        sheets[sheet] = switch (sort) {
            case 0 -> new byte[n];
            case 1 -> new short[n];
            case 2 -> new int[n];
            case 3 -> new long[n];
            case 4 -> new boolean[n];
            default -> null;
        };
        return 1;
    }

    int write(int sheet, int i, int v) {
        if (!in(sheet, 0, 3)) return -1;
        Object row = sheets[sheet];
        if (row == null) return -11;
        if (!in(i, 0, java.lang.reflect.Array.getLength(row) - 1)) return -12;
        switch (sortOf(row)) {
            case 0 -> ((byte[]) row)[i] = (byte) v;
            case 1 -> ((short[]) row)[i] = (short) v;
            case 2 -> ((int[]) row)[i] = v;
            case 3 -> ((long[]) row)[i] = v;
            default -> ((boolean[]) row)[i] = v != 0;
        }
        return 1;
    }

    int item(int sheet, int sort, int i) {
        if (!in(sheet, 0, 3) || !in(sort, 0, 4)) return -1;
        Object row = sheets[sheet];
        if (row == null) return -11;
        if (sortOf(row) != sort) return -13;
        if (!in(i, 0, java.lang.reflect.Array.getLength(row) - 1)) return -12;
        return switch (sort) {
            case 0 -> ((byte[]) row)[i];
            case 1 -> ((short[]) row)[i];
            case 2 -> ((int[]) row)[i];
            case 3 -> (int) ((long[]) row)[i];
            default -> ((boolean[]) row)[i] ? 1 : 0;
        };
    }

    int goAll(int sheet, int i, int n) {
        if (!in(sheet, 0, 3) || !in(n, 0, 20)) return -1;
        if (sheets[sheet] == null) return -11;
        if (!(sheets[sheet] instanceof byte[] acts)) return -13;
        int sum = 0;
        for (long k = i; k < (long) i + n; k++) {
            if (k < 0 || k >= acts.length) return -12;
            int act = acts[(int) k];
            if (in(act, 0, now.lamps.size()) && !now.over()) sum += goBy(act);
        }
        return sum;
    }

    int wouldBe(int sheet, int i, int n) {
        if (!in(sheet, 0, 3) || !in(n, 0, 20)) return -1;
        if (sheets[sheet] == null) return -11;
        if (!(sheets[sheet] instanceof byte[] acts)) return -13;
        Scene s = now;
        for (long k = i; k < (long) i + n; k++) {
            if (k < 0 || k >= acts.length) return -12;
            int act = acts[(int) k];
            if (!in(act, 0, now.lamps.size()) || s.over()) return -4;
            s = s.after(act);
        }
        return s.score - now.score;
    }

    int shelf(int shelf, int what, int n) {
        if (!in(shelf, 0, 3) || !in(what, 0, 2)) return -1;
        if (what == 0 && !isLamp(n) || what == 1 && !in(n, 0, 3)) return -1;
        shelves[shelf] = what == 0 ? (Object) n : what == 1 ? sheets[n] : null;
        return 1;
    }

    private Object held(int shelf) {
        Object o = shelves[shelf];
        return o instanceof Integer l && !isLamp(l) ? null : o;
    }

    int taken(int shelf, int as) {
        if (!in(shelf, 0, 3) || !in(as, 0, 5) && !in(as, 10, 14)) return -1;
        Object o = held(shelf);
        if (o == null) return -11;
        if (as < 10) return o instanceof Integer l && isA(now.lamps.get(l).kind, as) ? l : -13;
        return !(o instanceof Integer) && sortOf(o) == as - 10 ? java.lang.reflect.Array.getLength(o) : -13;
    }

    private static class Hand {
        int n;
        int a;
        List<Integer> ran;

        int aims(int x) {
            ran.add(10);
            return x + a;
        }

        int swings(int x) {
            ran.add(11);
            return aims(x) - n;
        }

        int dims(int x) {
            ran.add(12);
            if (a == n) throw new Fault(-15);
            return x / (a - n);
        }

        int follows(int x) {
            ran.add(13);
            return swings(x) ^ a;
        }
    }

    private static final class Steady extends Hand {
        @Override int aims(int x) {
            ran.add(20);
            return super.aims(x) * 2;
        }
    }

    private static class Quick extends Hand {
        @Override int swings(int x) {
            ran.add(30);
            return super.swings(x) ^ n;
        }
    }

    private static class Old extends Hand {
        @Override int dims(int x) {
            ran.add(40);
            return super.dims(x - 3);
        }
    }

    private static final class Nervous extends Quick {
        @Override int aims(int x) {
            ran.add(50);
            return super.aims(x) - 1;
        }

        @Override int follows(int x) {
            ran.add(51);
            return super.follows(x) + dims(a);
        }
    }

    private static final class Tired extends Old {
        @Override int swings(int x) {
            ran.add(60);
            return 0 - super.swings(x);
        }

        @Override int dims(int x) {
            ran.add(61);
            return super.dims(x) - aims(n);
        }
    }

    int act(int shelf, int act, int x) {
        trace = new ArrayList<>();
        if (!in(shelf, 0, 3) || !in(act, 0, 3) || !(held(shelf) instanceof Integer l)) return 0;
        Hand hand = switch (now.lamps.get(l).kind) {
            case 1 -> new Steady();
            case 2 -> new Quick();
            case 3 -> new Nervous();
            case 4 -> new Old();
            default -> new Tired();
        };
        hand.n = l;
        hand.a = now.lamps.get(l).size;
        hand.ran = trace;
        try {
            return switch (act) {
                case 0 -> hand.aims(x);
                case 1 -> hand.swings(x);
                case 2 -> hand.dims(x);
                default -> hand.follows(x);
            };
        } catch (Fault parted) {
            return parted.at;
        }
    }

    int trace(int i) {
        return in(i, 0, Math.min(30, trace.size()) - 1) ? trace.get(i) : -3;
    }

    int many(int what) {
        if (!in(what, 0, 6)) return -1;
        return new int[] {now.lamps.size(), now.rules.size(), now.places.size(), reports.size(), rows.length,
            tape.length(), Math.min(30, trace.size())}[what];
    }

    int keep() {
        keptScene = now;
        keptReports = reports;
        return 1;
    }

    int again() {
        if (keptScene == null) return -3;
        now = keptScene;
        reports = keptReports;
        return now.lamps.size();
    }
}
