import java.util.ArrayList;
import java.util.LinkedHashMap;
import java.util.List;
import java.util.Map;
import java.util.TreeSet;

/**
 * Promises 1 to 23, each call in each scene with arguments in and out of range, alone and together:
 * the exception that the document lists first of those that apply, or an answer; and nothing changed
 * by a call that throws. What is due is told here by the document's words, not by the program.
 */
public final class RefusalTest {
    private static final int MIN = Integer.MIN_VALUE, MAX = Integer.MAX_VALUE;
    private static final int DAY = WitchTrial.DAY, NIGHT = WitchTrial.NIGHT;

    /** An object is good for 512 calls: these are tried on it, the rest makes and looks at the scene. */
    private static final int REFUSED_CALLS = 80;

    /** The exception that is due, or null if there is an answer. */
    private interface Rule {
        Class<? extends Exception> due(Scene scene, int[] arguments);
    }

    private interface Doing {
        Object call(WitchTrial trial, int[] arguments);
    }

    private static final Check check = new Check("RefusalTest");

    public static void main(String[] args) {
        for (Scene scene : Scene.ALL) {
            checkFacts(scene);
            check.sentence("P2 to P23, every exception, its order, and nothing changed: " + scene.name);
            sweepStart(scene);
            sweepDay(scene);
            sweepNight(scene);
            sweepWhatIsSeen(scene);
            sweepBook(scene);
        }
        check.finish();
    }

    private static void checkFacts(Scene scene) {
        check.equal("phase of " + scene.name, scene.make().phase(), scene.phase);
        if (scene.players > 0) {
            check.equal("alive of " + scene.name, scene.make().alive(), scene.alive);
            check.equal("witches of " + scene.name, scene.make().sureWitches(lowest(scene.witches)), scene.witches);
        }
    }

    private static int lowest(int set) {
        return Integer.numberOfTrailingZeros(set);
    }

    // ---- the calls

    private static void sweepStart(Scene scene) {
        int[] counts = {MIN, -1, 0, 3, 4, 5, 7, 8, 9, 36, MAX};
        int[] sets = {MIN, MIN | 1, -1, 0, 1, 2, 3, 5, 7, 8, 15, 16, 112, 128, 136, 224, 255, 256, 257, 1 << 16, MAX};
        int[] who = {MIN, -1, 0, 1, 2, 3, 4, 6, 7, 8, 32, MAX};
        sweep(scene, "start", product(counts, sets, who, who), RefusalTest::startDue,
                (t, a) -> t.start(a[0], a[1], a[2], a[3]));
    }

    private static Class<? extends Exception> startDue(Scene scene, int[] a) {
        boolean players = a[0] >= 4 && a[0] <= 8;
        boolean witches = players && a[1] >= 1 && a[1] < Math.pow(2, a[0]) && Integer.bitCount(a[1]) < a[0] / 2.0;
        boolean seer = witches && a[2] >= 0 && a[2] < a[0] && (a[1] >> a[2] & 1) == 0;
        boolean guard = seer && a[3] >= 0 && a[3] < a[0] && (a[1] >> a[3] & 1) == 0 && a[3] != a[2];
        return guard ? null : Check.ARGUMENT;
    }

    private static void sweepDay(Scene scene) {
        int[] players = players(scene);
        sweep(scene, "claim", product(players, fours(), players), RefusalTest::claimDue,
                (t, a) -> t.claim(a[0], a[1], a[2]));
        sweep(scene, "claimAmong", product(players, sets(scene)), RefusalTest::claimAmongDue,
                (t, a) -> t.claimAmong(a[0], a[1]));
        sweep(scene, "vote", product(players, players), RefusalTest::voteDue, (t, a) -> t.vote(a[0], a[1]));
        sweep(scene, "closeVote", product(), (s, a) -> s.phase == DAY ? null : Check.STATE, (t, a) -> t.closeVote());
    }

    private static Class<? extends Exception> claimDue(Scene scene, int[] a) {
        if (scene.players == 0) {
            return Check.STATE;
        }
        if (!scene.hasPlayer(a[0]) || !scene.hasPlayer(a[2])) {
            return Check.INDEX;
        }
        if (a[1] < 0 || a[1] > 3) {
            return Check.ARGUMENT;
        }
        boolean[] isTrue = {scene.hasWitch(a[2]), !scene.hasWitch(a[2]), scene.seer == a[2], scene.guard == a[2]};
        return claimDue(scene, a[0], isTrue[a[1]]);
    }

    private static Class<? extends Exception> claimAmongDue(Scene scene, int[] a) {
        if (scene.players == 0) {
            return Check.STATE;
        }
        if (!scene.hasPlayer(a[0])) {
            return Check.INDEX;
        }
        if (a[1] < 0 || a[1] >= 1 << scene.players) {
            return Check.ARGUMENT;
        }
        return claimDue(scene, a[0], (a[1] & scene.witches) != 0);
    }

    private static Class<? extends Exception> claimDue(Scene scene, int player, boolean isTrue) {
        boolean may = scene.phase == DAY && scene.lives(player) && (scene.hasWitch(player) || isTrue);
        return may ? null : Check.ELEMENT;
    }

    private static Class<? extends Exception> voteDue(Scene scene, int[] a) {
        if (scene.phase != DAY) {
            return Check.STATE;
        }
        if (!scene.hasPlayer(a[0]) || !scene.hasPlayer(a[1])) {
            return Check.INDEX;
        }
        return scene.lives(a[0]) && scene.lives(a[1]) ? null : Check.ARGUMENT;
    }

    private static void sweepNight(Scene scene) {
        int[][] players = product(players(scene));
        sweep(scene, "protect", players, (s, a) -> nightDue(s, a[0], s.guard, s.protectedBefore == a[0]),
                (t, a) -> t.protect(a[0]));
        sweep(scene, "attack", players, (s, a) -> nightDue(s, a[0], lowest(s.alive), s.hasWitch(a[0])),
                (t, a) -> t.attack(a[0]));
        sweep(scene, "look", players, (s, a) -> nightDue(s, a[0], s.seer, s.seer == a[0]), (t, a) -> t.look(a[0]));
        sweep(scene, "endNight", product(), (s, a) -> s.phase == NIGHT ? null : Check.STATE, (t, a) -> t.endNight());
    }

    private static Class<? extends Exception> nightDue(Scene scene, int player, int who, boolean forbidden) {
        if (scene.phase != NIGHT || !scene.lives(who)) {
            return Check.STATE;
        }
        if (!scene.hasPlayer(player)) {
            return Check.INDEX;
        }
        return scene.lives(player) && !forbidden ? null : Check.ARGUMENT;
    }

    private static void sweepWhatIsSeen(Scene scene) {
        sweep(scene, "phase", product(), (s, a) -> null, (t, a) -> t.phase());
        sweep(scene, "day", product(), RefusalTest::gameDue, (t, a) -> t.day());
        sweep(scene, "alive", product(), RefusalTest::gameDue, (t, a) -> t.alive());
        sweep(scene, "lookedAt", product(), RefusalTest::gameDue, (t, a) -> t.lookedAt());
        sweep(scene, "bestLook", product(), RefusalTest::gameDue, (t, a) -> t.bestLook());
        sweep(scene, "votesFor", product(players(scene)), (s, a) -> playerDue(s, s.hasPlayer(a[0])),
                (t, a) -> t.votesFor(a[0]));
    }

    private static Class<? extends Exception> gameDue(Scene scene, int[] none) {
        return scene.players == 0 ? Check.STATE : null;
    }

    private static Class<? extends Exception> playerDue(Scene scene, boolean exists) {
        return scene.players == 0 ? Check.STATE : exists ? null : Check.INDEX;
    }

    private static boolean hasViewer(Scene scene, int viewer) {
        return viewer == WitchTrial.NONE || scene.hasPlayer(viewer);
    }

    private static void sweepBook(Scene scene) {
        int[] players = players(scene);
        Rule viewer = (s, a) -> playerDue(s, hasViewer(s, a[0]));
        sweep(scene, "worlds", product(players), viewer, (t, a) -> t.worlds(a[0]));
        sweep(scene, "sureWitches", product(players), viewer, (t, a) -> t.sureWitches(a[0]));
        sweep(scene, "sureHonest", product(players), viewer, (t, a) -> t.sureHonest(a[0]));
        sweep(scene, "witchSets", product(players), viewer, (t, a) -> t.witchSets(a[0]));
        sweep(scene, "suspect", product(players), viewer, (t, a) -> t.suspect(a[0]));
        sweep(scene, "worldsWith", product(players, players, fours()), RefusalTest::worldsWithDue,
                (t, a) -> t.worldsWith(a[0], a[1], a[2]));
        int[] some = {MIN, -2, -1, 0, scene.players - 1, scene.players, 8, 32, MAX};
        int[] sets = {MIN, MIN | 3, -1, 0, 1, 3, 7, 24, 112, 128, 129, 255, 256, 1 << 16, 1 << 24, MAX};
        sweep(scene, "isPossible", product(some, sets, some, some),
                (s, a) -> playerDue(s, hasViewer(s, a[0]) && s.hasPlayer(a[2]) && s.hasPlayer(a[3])),
                (t, a) -> t.isPossible(a[0], a[1], a[2], a[3]));
    }

    private static Class<? extends Exception> worldsWithDue(Scene scene, int[] a) {
        Class<? extends Exception> due = playerDue(scene, hasViewer(scene, a[0]) && scene.hasPlayer(a[1]));
        return due == null && (a[2] < 0 || a[2] > 3) ? Check.ARGUMENT : due;
    }

    // ---- the arguments

    /** Every player there can be, the ends of int, and what lies about the ends of the range. */
    private static int[] players(Scene scene) {
        int n = scene.players;
        return each(MIN, MIN + 1, -32, -8, -2, -1, 0, 1, 2, 3, 4, 5, 6, 7, 8, 9, n - 1, n, n + 1, 31, 32, 33, 64, 256,
                MAX - 1, MAX);
    }

    /** The roles or the kinds of claims, and what is none. */
    private static int[] fours() {
        return each(MIN, MIN + 1, -2, -1, 0, 1, 2, 3, 4, 5, 8, 32, MAX - 1, MAX);
    }

    private static int[] sets(Scene scene) {
        int n = scene.players;
        return each(MIN, MIN + 1, -256, -2, -1, 0, 1, 2, 3, 4, 12, 28, 60, (1 << n) - 1, 1 << n, (1 << n) + 1,
                scene.alive, ~scene.alive & (1 << n) - 1, scene.witches, ~scene.witches & (1 << n) - 1, 255, 256, 257,
                1 << 16, 1 << 24, 1 << 30, MAX - 1, MAX);
    }

    private static int[] each(int... values) {
        TreeSet<Integer> sorted = new TreeSet<>();
        for (int value : values) {
            sorted.add(value);
        }
        return sorted.stream().mapToInt(Integer::intValue).toArray();
    }

    private static int[][] product(int[]... ranges) {
        List<int[]> rows = new ArrayList<>();
        rows.add(new int[0]);
        for (int[] range : ranges) {
            List<int[]> longer = new ArrayList<>();
            for (int[] row : rows) {
                for (int value : range) {
                    int[] next = java.util.Arrays.copyOf(row, row.length + 1);
                    next[row.length] = value;
                    longer.add(next);
                }
            }
            rows = longer;
        }
        return rows.toArray(new int[0][]);
    }

    // ---- the sweep

    private static void sweep(Scene scene, String call, int[][] rows, Rule rule, Doing doing) {
        Map<Class<? extends Exception>, List<int[]>> refused = new LinkedHashMap<>();
        for (int[] row : rows) {
            Class<? extends Exception> due = rule.due(scene, row);
            if (due == null) {
                Object answer = outcome(scene.make(), doing, row);
                check.equal(told(call, row) + " is answered", !(answer instanceof String), true);
            } else {
                refused.computeIfAbsent(due, d -> new ArrayList<>()).add(row);
            }
        }
        for (Map.Entry<Class<? extends Exception>, List<int[]>> entry : refused.entrySet()) {
            refuse(scene, call, entry.getValue(), entry.getKey(), doing);
        }
    }

    private static void refuse(Scene scene, String call, List<int[]> rows, Class<? extends Exception> due, Doing doing) {
        for (int from = 0; from < rows.size(); from += REFUSED_CALLS) {
            List<int[]> some = rows.subList(from, Math.min(rows.size(), from + REFUSED_CALLS));
            WitchTrial seen = scene.make();
            WitchTrial left = scene.make();
            for (int[] row : some) {
                check.equal(told(call, row), outcome(seen, doing, row), due.getName());
                check.equal(told(call, row), outcome(left, doing, row), due.getName());
            }
            String after = " after " + call + " threw " + due.getSimpleName() + ", " + told(call, some.get(0)) + " first";
            check.equal("what is seen" + after, Check.seen(seen), scene.view());
            check.equal("what comes" + after, Check.farewell(left), scene.farewell());
        }
    }

    private static Object outcome(WitchTrial trial, Doing doing, int[] row) {
        return Check.outcome(() -> doing.call(trial, row));
    }

    private static String told(String call, int[] row) {
        StringBuilder text = new StringBuilder(call).append('(');
        for (int i = 0; i < row.length; i++) {
            text.append(i == 0 ? "" : ", ").append(row[i]);
        }
        return text.append(')').toString();
    }
}
