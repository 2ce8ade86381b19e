import java.lang.reflect.InvocationTargetException;
import java.lang.reflect.Method;
import java.lang.reflect.Modifier;
import java.util.Arrays;
import java.util.Comparator;
import java.util.Set;

/** Calls with numbers of all sorts on five stages: what is refused or only asked changes nothing, and none throws. */
public final class RefusalsTest {
    private static final Due due = new Due("RefusalsTest");

    private static final int MIN = Integer.MIN_VALUE, MAX = Integer.MAX_VALUE;
    private static final int[] MANY = {MIN, MIN + 1, -100, -2, -1, 0, 1, 2, 3, 4, 5, 6, 7, 8, 9, 10, 14, 15, 16, 17, 20,
        21, 39, 40, 41, 42, 999, 1000, MAX - 1, MAX};
    private static final int[] FEW = {MIN, -1, 0, 1, 2, 3, 4, 5, 6, 10, 14, 15, 16, 20, 21, 40, 41, MAX};
    private static final int[] FEWER = {MIN, -1, 0, 1, 3, 5, 6, 10, 16, 41, MAX};

    private static final Set<String> ASKED = Set.of("lampOf", "danceOf", "state", "in", "shows", "on", "lost",
        "crosses", "sized", "aimed", "stepFor", "who", "best", "ith", "ways", "game", "play", "span", "liar", "often",
        "row", "judge", "item", "wouldBe", "taken", "trace", "many");
    /** What these answer below 0 is no refusal by which nothing is changed. */
    private static final Set<String> NEVER_REFUSED = Set.of("seed", "act", "rules");

    private static int refused;

    public static void main(String[] args) throws IllegalAccessException {
        for (int stage = 0; stage < 5; stage++) sweep(stage);
        due.is("many calls were refused", refused > 10000 ? 1 : 0, 1);
        feedRefused();
        goAllOutside();
        due.end();
    }

    /** 0 a new object, 1 under way, 2 as full as can be, 3 that being over, 4 lamps and no dance. */
    private static LampThatFollows stage(int stage) {
        LampThatFollows x = new LampThatFollows();
        if (stage == 0) return x;
        int lamps = stage == 1 ? 3 : stage == 4 ? 2 : 6;
        int beats = stage == 1 ? 5 : stage == 4 ? 0 : 16;
        for (int l = 0; l < lamps; l++) x.lamp(5 - l % 5, 6 * l, l, 1 + l);
        if (stage != 4) x.keep();
        for (int b = 0; b < beats; b++) x.dance(7 * b % 41);
        Due.rules(x, stage == 1 ? "old if beat>1 lead 2;hand lag 1;" : "quick if aim>9 lead 1;".repeat(8));
        for (int r = 0; r < (stage == 1 ? 2 : 6); r++) x.report(r, 10 + r, 3, r % 3);
        for (int sheet = 0; sheet < 3; sheet++) {
            x.sheet(sheet, sheet == 2 ? 4 : sheet, sheet == 1 ? 40 : 5);
            for (int i = 0; i < 5; i++) x.write(sheet, i, i - 1);
        }
        x.shelf(0, 0, lamps - 1);
        x.shelf(1, 1, 0);
        x.shelf(2, 0, 0);
        for (int b = 0; b < (stage == 3 ? 16 : 2); b++) x.lot();
        x.prove(3);
        Due.feed(x, stage == 1 ? "old wait;" : "hand lag 2;" + " ".repeat(189));
        x.act(0, 3, 7);
        return x;
    }

    /** All that can be asked without a change, but for what follows from the rest of it. */
    private static String told(LampThatFollows x) {
        StringBuilder all = new StringBuilder();
        for (int what = 0; what <= 6; what++) all.append(x.many(what)).append(' ');
        for (int what = 0; what <= 3; what++) all.append(x.state(what)).append(' ');
        for (int l = 0; l < 6; l++) {
            for (int what = 0; what <= 5; what++) all.append(x.lampOf(l, what)).append(' ');
        }
        for (int b = 0; b < 16; b++) all.append(x.danceOf(b)).append(' ');
        for (int what = 0; what <= 2; what++) all.append(x.span(what)).append(' ');
        for (int k = 0; k < 4; k++) {
            for (int what = 0; what <= 2; what++) all.append(x.row(k, what)).append(' ');
        }
        for (int sheet = 0; sheet < 4; sheet++) {
            for (int sort = 0; sort <= 4; sort++) {
                for (int i : new int[] {0, 1, 2, 3, 4, 5, 39, 40}) all.append(x.item(sheet, sort, i)).append(' ');
            }
            for (int as = 0; as <= 14; as++) all.append(x.taken(sheet, as)).append(' ');
        }
        for (int i = 0; i < 8; i++) all.append(x.trace(i)).append(' ');
        int z = x.seed(0);
        x.seed(z);
        return all.append(z).toString();
    }

    private static void sweep(int stage) throws IllegalAccessException {
        Method[] methods = LampThatFollows.class.getDeclaredMethods();
        Arrays.sort(methods, Comparator.comparing(Method::getName));
        for (Method m : methods) {
            if (!Modifier.isPublic(m.getModifiers()) || m.getName().equals("feed")) continue;
            int count = m.getParameterCount();
            int[] numbers = count <= 2 ? MANY : count == 3 ? FEW : FEWER;
            LampThatFollows x = stage(stage);
            String was = told(x);
            int all = 1;
            for (int i = 0; i < count; i++) all *= numbers.length;
            for (int k = 0; k < all; k++) {
                Object[] a = new Object[count];
                for (int i = 0, rest = k; i < count; i++, rest /= numbers.length) a[i] = numbers[rest % numbers.length];
                int answer = call(m, x, a);
                String is = told(x);
                boolean stays = ASKED.contains(m.getName()) || isRefusal(m.getName(), answer);
                if (stays) {
                    String told = m.getName() + Arrays.toString(a) + " on stage " + stage + " changes nothing";
                    due.is(told, is.equals(was) ? 1 : 0, 1);
                    refused++;
                } else if (!is.equals(was) || count == 0) {
                    x = stage(stage);
                }
            }
            theRestOf(x, stage, m.getName());
        }
    }

    private static boolean isRefusal(String name, int answer) {
        if (name.equals("alterRow")) return answer == -9;
        if (name.equals("goAll") && answer == -12) return false;
        return answer < 0 && !NEVER_REFUSED.contains(name);
    }

    private static int call(Method m, LampThatFollows x, Object[] a) throws IllegalAccessException {
        try {
            return (Integer) m.invoke(x, a);
        } catch (InvocationTargetException thrown) {
            due.is(m.getName() + Arrays.toString(a) + " threw " + thrown.getCause(), 1, 0);
            return 0;
        }
    }

    /** What the tape holds and what is kept can only be told by using it. */
    private static void theRestOf(LampThatFollows x, int stage, String name) {
        if (stage == 0 || name.equals("rules") || name.equals("keep") || name.equals("again")) return;
        due.is("the tape behind " + name + " on stage " + stage, x.rules(), 1);
        due.is("used up", x.many(5), 0);
        int lamps = stage == 1 ? 3 : 6;
        due.is("what is kept behind " + name + " on stage " + stage, x.again(), stage == 4 ? -3 : lamps);
        if (stage != 4) due.is("and its beats", x.many(2), 0);
    }

    private static void feedRefused() {
        LampThatFollows x = stage(1);
        String was = told(x);
        for (int n : MANY) {
            if (n >= 1 && n <= 8) continue;
            for (long eight : new long[] {Long.MIN_VALUE, -1, 0, Long.MAX_VALUE}) {
                due.is("feed of " + n, x.feed(eight, n), -1);
                due.is("changes nothing", told(x).equals(was) ? 1 : 0, 1);
            }
        }
        due.is("the tape", x.rules(), 1);
        x = stage(2);
        was = told(x);
        for (int n = 1; n <= 8; n++) {
            due.is("feed of " + n + ", full", x.feed(-1L, n), -2);
            due.is("changes nothing", told(x).equals(was) ? 1 : 0, 1);
        }
        due.is("the tape", x.rules(), 1);
    }

    private static void goAllOutside() {
        LampThatFollows x = stage(1);
        String was = told(x);
        for (int i : new int[] {MIN, -1, 5, 40, MAX}) {
            for (int n = 1; n <= 20; n++) {
                due.is("none stood ahead", x.goAll(0, i, n), -12);
                due.is("changes nothing", told(x).equals(was) ? 1 : 0, 1);
            }
        }
    }
}
