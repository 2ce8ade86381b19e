import java.util.ArrayList;
import java.util.List;
import java.util.Random;

/** Runs of calls by a fixed seed, each answer held against the plain model's. */
public final class RandomRunsTest {
    private static final String[] NAMES = {"lamp", "lampOf", "change", "remake", "dance", "danceOf", "steps", "anew",
        "state", "feed", "rules", "beat", "in", "shows", "on", "lost", "crosses", "sized", "aimed", "stepFor", "who",
        "best", "ith", "ways", "game", "play", "report", "forget", "span", "liar", "seed", "lot", "often", "prove",
        "row", "alterRow", "judge", "sheet", "write", "item", "goAll", "wouldBe", "shelf", "taken", "act", "trace",
        "many", "keep", "again"};
    private static final int[] WILD = {Integer.MIN_VALUE, Integer.MIN_VALUE + 1, Integer.MAX_VALUE,
        Integer.MAX_VALUE - 1, -100, -15, -3, -2, -1, 0, 1, 2, 3, 4, 5, 6, 7, 9, 10, 15, 16, 17, 40, 41, 127, 128, 255,
        256, 1000, 65535};

    private final Random random;
    private final List<String> calls = new ArrayList<>();
    private LampThatFollows x = new LampThatFollows();
    private PlainModel y = new PlainModel();
    private int wrong;

    private RandomRunsTest(long seed) {
        random = new Random(seed);
    }

    public static void main(String[] args) {
        int runs = args.length > 0 ? Integer.parseInt(args[0]) : 300;
        int first = args.length > 1 ? Integer.parseInt(args[1]) : 0;
        int bad = 0;
        for (int run = first; run < first + runs; run++) {
            RandomRunsTest test = new RandomRunsTest(run);
            test.go(run % 4 == 0 ? 512 : 160);
            if (test.wrong != 0) {
                bad++;
                System.out.println("run " + run + ": " + test.calls);
                if (bad > 2) break;
            }
        }
        System.out.println("RandomRunsTest: " + runs + " runs, " + bad + " wrong");
        if (bad != 0) System.exit(1);
    }

    private void go(int length) {
        // all runs but some begin with a stage, as lone calls hardly make one
        int start = random.nextInt(8) == 0 ? 0 : 6 + random.nextInt(14);
        for (int i = 0; i < start && wrong == 0; i++) {
            if (random.nextBoolean()) call("dance", r(0, 40));
            else call("lamp", r(1, 5), r(0, 40), r(0, 9), r(1, 9));
        }
        while (calls.size() < length && wrong == 0) some();
    }

    private int r(int a, int b) {
        return a + random.nextInt(b - a + 1);
    }

    /** Mostly a to b or next to these, else anything. */
    private int v(int a, int b) {
        int k = random.nextInt(40);
        if (k == 0) return WILD[random.nextInt(WILD.length)];
        if (k < 4) return r(a - 1, b + 1);
        return r(a, b);
    }

    private int any() {
        return random.nextInt(3) == 0 ? WILD[random.nextInt(WILD.length)]
            : random.nextInt(3) == 0 ? random.nextInt() : r(-20, 20);
    }

    private void some() {
        if (random.nextInt(12) == 0) {
            text();
            return;
        }
        String name = NAMES[random.nextInt(NAMES.length)];
        switch (name) {
            case "lamp" -> call(name, v(1, 5), v(0, 40), v(0, 9), v(1, 9));
            case "lampOf" -> call(name, v(0, 5), v(0, 5));
            case "change" -> {
                int what = v(1, 3);
                call(name, v(0, 5), what, what == 1 ? v(0, 40) : what == 2 ? v(0, 9) : v(1, 9));
            }
            case "remake" -> call(name, v(0, 5), v(1, 5));
            case "dance" -> call(name, v(0, 40));
            case "danceOf" -> call(name, v(0, 15));
            case "steps" -> call(name, v(0, 15), v(0, 40));
            case "anew", "forget" -> {
                if (random.nextInt(3) == 0) call(name);
            }
            case "again" -> {
                if (random.nextInt(2) == 0) call(name);
            }
            case "state" -> call(name, v(0, 3));
            case "feed" -> {
                if (random.nextInt(6) == 0) call(name, v(1, 8));
            }
            case "in", "span" -> call(name, v(0, 2));
            case "shows", "lost", "sized", "aimed", "stepFor" -> call(name, v(0, 5));
            case "on" -> call(name, v(0, 16));
            case "crosses" -> call(name, v(0, 5), v(0, 5));
            case "best", "ways", "prove" -> call(name, v(0, 4));
            case "ith" -> call(name, v(0, 4), v(0, 3));
            case "game", "play" -> call(name, v(1, 4));
            case "report" -> call(name, v(0, 15), v(0, 40), v(0, 9), v(0, 2));
            case "seed" -> call(name, any());
            case "often" -> call(name, v(1, 40), random.nextInt(4) == 0 ? v(0, 999) : v(0, 150));
            case "row" -> call(name, v(0, 3), v(0, 2));
            case "alterRow" -> {
                if (random.nextInt(2) == 0) call(name, v(0, 3), v(0, 2), random.nextInt(3) == 0 ? any() : v(0, 6));
            }
            case "sheet" -> call(name, v(0, 3), random.nextInt(2) == 0 ? 0 : v(-1, 4), v(0, 40));
            case "write" -> {
                int sheet = v(0, 3);
                for (int i = r(1, 9); i > 0; i--) call(name, sheet, v(0, 24), random.nextInt(3) == 0 ? any() : v(0, 6));
            }
            case "item" -> call(name, v(0, 3), v(0, 4), v(0, 24));
            case "goAll", "wouldBe" -> {
                if (random.nextInt(name.equals("goAll") ? 3 : 1) == 0) {
                    call(name, v(0, 3), v(0, 24), random.nextBoolean() ? v(0, 4) : v(0, 20));
                }
            }
            case "shelf" -> call(name, v(0, 3), v(0, 2), random.nextBoolean() ? v(0, 5) : v(0, 3));
            case "taken" -> call(name, v(0, 3), random.nextBoolean() ? v(0, 5) : v(10, 14));
            case "act" -> {
                call(name, v(0, 3), v(0, 3), any());
                for (int i = 0; i < 8; i++) call("trace", i);
            }
            case "trace" -> call(name, v(0, 8));
            case "many" -> call(name, v(0, 6));
            default -> call(name);
        }
    }

    private String pick(String... all) {
        return all[random.nextInt(all.length)];
    }

    private String kind() {
        return pick("hand", "hand", "steady", "quick", "nervous", "old", "tired");
    }

    private String value() {
        return random.nextInt(3) == 0 ? "" + r(0, random.nextBoolean() ? 9 : 45)
            : pick("beat", "place", "aim", "size", "number", "aim", "place");
    }

    private String cond(int depth) {
        String one = random.nextInt(4) == 0 && depth < 4 ? "(" + cond(depth + 1) + ")"
            : value() + gap() + pick("<", "=", ">") + gap() + value();
        if (random.nextInt(4) == 0) one = "not " + one;
        return random.nextInt(3) == 0 ? one + pick(" and ", " or ") + cond(depth) : one;
    }

    private String gap() {
        return pick("", " ", "", "  ");
    }

    private String rule() {
        String deed = pick("lead ", "lag ", "lead", "lag ") + r(0, random.nextInt(8) == 0 ? 110 : 6);
        return kind() + " " + (random.nextInt(4) == 0 ? "" : "if " + cond(0) + " ")
            + (random.nextInt(4) == 0 ? "wait" : deed) + gap() + ";" + gap();
    }

    private void text() {
        StringBuilder text = new StringBuilder();
        for (int i = random.nextInt(8) == 0 ? r(7, 10) : r(0, 3); i > 0; i--) {
            text.append(random.nextInt(30) == 0 ? "hand wait;".repeat(8) : rule());
        }
        if (random.nextInt(3) == 0 && text.length() > 0) spoil(text);
        for (int i = 0; i < text.length(); i += 8) feed(text.substring(i, Math.min(text.length(), i + 8)));
        call("rules");
        call("many", 1);
        for (int l = 0; l < 6; l++) call("lampOf", l, 4);
    }

    private void spoil(StringBuilder text) {
        int at = random.nextInt(text.length());
        switch (random.nextInt(4)) {
            case 0 -> text.setCharAt(at, (char) r(0, 255));
            case 1 -> text.deleteCharAt(at);
            case 2 -> text.insert(at, pick(" ", "9", "(", ")", ";", "not ", "wait", "lead", "12345", "1", "x", "A"));
            default -> text.setLength(at);
        }
    }

    private void feed(String some) {
        long eight = 0;
        for (int k = some.length() - 1; k >= 0; k--) eight = eight << 8 | some.charAt(k);
        if (some.length() < 8) eight |= random.nextLong() << 8 * some.length();
        feed(eight, some.length());
    }

    private void feed(long eight, int n) {
        if (wrong != 0) return;
        note("feed(" + eight + ", " + n + ")", x.feed(eight, n), y.feed(eight, n));
    }

    private void note(String call, int got, int want) {
        calls.add(call + " = " + got);
        if (got != want) {
            wrong++;
            calls.add("but due is " + want);
        }
    }

    private void call(String name, int... a) {
        if (wrong != 0) return;
        if (name.equals("feed")) {
            feed(random.nextLong(), a[0]);
            return;
        }
        StringBuilder told = new StringBuilder(name).append("(");
        for (int i = 0; i < a.length; i++) told.append(i == 0 ? "" : ", ").append(a[i]);
        note(told + ")", ofClass(name, a), ofModel(name, a));
    }

    private int ofClass(String name, int[] a) {
        return switch (name) {
            case "lamp" -> x.lamp(a[0], a[1], a[2], a[3]);
            case "lampOf" -> x.lampOf(a[0], a[1]);
            case "change" -> x.change(a[0], a[1], a[2]);
            case "remake" -> x.remake(a[0], a[1]);
            case "dance" -> x.dance(a[0]);
            case "danceOf" -> x.danceOf(a[0]);
            case "steps" -> x.steps(a[0], a[1]);
            case "anew" -> x.anew();
            case "state" -> x.state(a[0]);
            case "rules" -> x.rules();
            case "beat" -> x.beat();
            case "in" -> x.in(a[0]);
            case "shows" -> x.shows(a[0]);
            case "on" -> x.on(a[0]);
            case "lost" -> x.lost(a[0]);
            case "crosses" -> x.crosses(a[0], a[1]);
            case "sized" -> x.sized(a[0]);
            case "aimed" -> x.aimed(a[0]);
            case "stepFor" -> x.stepFor(a[0]);
            case "who" -> x.who();
            case "best" -> x.best(a[0]);
            case "ith" -> x.ith(a[0], a[1]);
            case "ways" -> x.ways(a[0]);
            case "game" -> x.game(a[0]);
            case "play" -> x.play(a[0]);
            case "report" -> x.report(a[0], a[1], a[2], a[3]);
            case "forget" -> x.forget();
            case "span" -> x.span(a[0]);
            case "liar" -> x.liar();
            case "seed" -> x.seed(a[0]);
            case "lot" -> x.lot();
            case "often" -> x.often(a[0], a[1]);
            case "prove" -> x.prove(a[0]);
            case "row" -> x.row(a[0], a[1]);
            case "alterRow" -> x.alterRow(a[0], a[1], a[2]);
            case "judge" -> x.judge();
            case "sheet" -> x.sheet(a[0], a[1], a[2]);
            case "write" -> x.write(a[0], a[1], a[2]);
            case "item" -> x.item(a[0], a[1], a[2]);
            case "goAll" -> x.goAll(a[0], a[1], a[2]);
            case "wouldBe" -> x.wouldBe(a[0], a[1], a[2]);
            case "shelf" -> x.shelf(a[0], a[1], a[2]);
            case "taken" -> x.taken(a[0], a[1]);
            case "act" -> x.act(a[0], a[1], a[2]);
            case "trace" -> x.trace(a[0]);
            case "many" -> x.many(a[0]);
            case "keep" -> x.keep();
            case "again" -> x.again();
            default -> throw new IllegalStateException(name);
        };
    }

    private int ofModel(String name, int[] a) {
        return switch (name) {
            case "lamp" -> y.lamp(a[0], a[1], a[2], a[3]);
            case "lampOf" -> y.lampOf(a[0], a[1]);
            case "change" -> y.change(a[0], a[1], a[2]);
            case "remake" -> y.remake(a[0], a[1]);
            case "dance" -> y.dance(a[0]);
            case "danceOf" -> y.danceOf(a[0]);
            case "steps" -> y.steps(a[0], a[1]);
            case "anew" -> y.anew();
            case "state" -> y.state(a[0]);
            case "rules" -> y.rules();
            case "beat" -> y.beat();
            case "in" -> y.in(a[0]);
            case "shows" -> y.shows(a[0]);
            case "on" -> y.on(a[0]);
            case "lost" -> y.lost(a[0]);
            case "crosses" -> y.crosses(a[0], a[1]);
            case "sized" -> y.sized(a[0]);
            case "aimed" -> y.aimed(a[0]);
            case "stepFor" -> y.stepFor(a[0]);
            case "who" -> y.who();
            case "best" -> y.best(a[0]);
            case "ith" -> y.ith(a[0], a[1]);
            case "ways" -> y.ways(a[0]);
            case "game" -> y.game(a[0]);
            case "play" -> y.play(a[0]);
            case "report" -> y.report(a[0], a[1], a[2], a[3]);
            case "forget" -> y.forget();
            case "span" -> y.span(a[0]);
            case "liar" -> y.liar();
            case "seed" -> y.seed(a[0]);
            case "lot" -> y.lot();
            case "often" -> y.often(a[0], a[1]);
            case "prove" -> y.prove(a[0]);
            case "row" -> y.row(a[0], a[1]);
            case "alterRow" -> y.alterRow(a[0], a[1], a[2]);
            case "judge" -> y.judge();
            case "sheet" -> y.sheet(a[0], a[1], a[2]);
            case "write" -> y.write(a[0], a[1], a[2]);
            case "item" -> y.item(a[0], a[1], a[2]);
            case "goAll" -> y.goAll(a[0], a[1], a[2]);
            case "wouldBe" -> y.wouldBe(a[0], a[1], a[2]);
            case "shelf" -> y.shelf(a[0], a[1], a[2]);
            case "taken" -> y.taken(a[0], a[1]);
            case "act" -> y.act(a[0], a[1], a[2]);
            case "trace" -> y.trace(a[0]);
            case "many" -> y.many(a[0]);
            case "keep" -> y.keep();
            case "again" -> y.again();
            default -> throw new IllegalStateException(name);
        };
    }
}
