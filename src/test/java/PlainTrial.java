import java.util.ArrayList;
import java.util.HashSet;
import java.util.List;
import java.util.NoSuchElementException;
import java.util.Set;

/**
 * The document once more, told as plainly as can be and in another way than the program: a world
 * is a row of roles, and every question goes through all deals and all that has become known.
 */
final class PlainTrial {
    private static final int NONE = -1, VILLAGER = 0, WITCH = 1, SEER = 2, GUARD = 3;
    private static final int NO_GAME = 0, DAY = 1, NIGHT = 2, VILLAGE_WON = 3, WITCHES_WON = 4;

    private interface Fact {
        boolean agrees(int[] world);
    }

    private int phase = NO_GAME;
    private int n;
    private int witchCount;
    private int[] truth;
    private List<int[]> deals;
    private List<Fact> facts;
    private boolean[] dead;
    private Integer[] votes;
    private boolean[] seen;
    private int day;
    private int protects, attacks, looks, protectedBefore;

    int start(int players, int witches, int seer, int guard) {
        argument(players >= 4 && players <= 8);
        argument(witches >= 1 && witches < 1 << players);
        int count = 0;
        for (int p = 0; p < players; p++) {
            count += witches >> p & 1;
        }
        argument(count >= 1 && count * 2 < players);
        argument(seer >= 0 && seer < players && (witches >> seer & 1) == 0);
        argument(guard >= 0 && guard < players && (witches >> guard & 1) == 0 && guard != seer);
        n = players;
        witchCount = count;
        truth = new int[n];
        for (int p = 0; p < n; p++) {
            truth[p] = (witches >> p & 1) == 1 ? WITCH : p == seer ? SEER : p == guard ? GUARD : VILLAGER;
        }
        deals = new ArrayList<>();
        deal(new int[n], 0);
        facts = new ArrayList<>();
        dead = new boolean[n];
        votes = new Integer[n];
        seen = new boolean[n];
        day = 1;
        phase = DAY;
        protectedBefore = NONE;
        forgetChoices();
        return worlds(NONE);
    }

    private void deal(int[] roles, int next) {
        if (next < n) {
            for (int role = VILLAGER; role <= GUARD; role++) {
                roles[next] = role;
                deal(roles, next + 1);
            }
        } else if (count(roles, WITCH) == witchCount && count(roles, SEER) == 1 && count(roles, GUARD) == 1) {
            deals.add(roles.clone());
        }
    }

    private static int count(int[] roles, int role) {
        int count = 0;
        for (int r : roles) {
            count += r == role ? 1 : 0;
        }
        return count;
    }

    int phase() {
        return phase;
    }

    int claim(int player, int kind, int other) {
        state(phase != NO_GAME);
        index(player);
        index(other);
        argument(kind >= 0 && kind <= 3);
        return claimed(player, w -> kind == 0 ? w[other] == WITCH : kind == 1 ? w[other] != WITCH
                : kind == 2 ? w[other] == SEER : w[other] == GUARD);
    }

    int claimAmong(int player, int set) {
        state(phase != NO_GAME);
        index(player);
        argument(set >= 0 && set < 1 << n);
        return claimed(player, w -> {
            for (int p = 0; p < n; p++) {
                if ((set >> p & 1) == 1 && w[p] == WITCH) {
                    return true;
                }
            }
            return false;
        });
    }

    private int claimed(int player, Fact said) {
        boolean mayClaim = phase == DAY && !dead[player] && (truth[player] == WITCH || said.agrees(truth));
        if (!mayClaim) {
            throw new NoSuchElementException();
        }
        facts.add(w -> w[player] == WITCH || said.agrees(w));
        return worlds(NONE);
    }

    int vote(int player, int other) {
        state(phase == DAY);
        index(player);
        index(other);
        argument(!dead[player] && !dead[other]);
        votes[player] = other;
        return votesFor(other);
    }

    int closeVote() {
        state(phase == DAY);
        int hanged = NONE;
        for (int p = 0; p < n; p++) {
            boolean most = votesFor(p) > 0;
            for (int q = 0; q < n; q++) {
                most &= p == q || votesFor(p) > votesFor(q);
            }
            hanged = most ? p : hanged;
        }
        votes = new Integer[n];
        phase = NIGHT;
        if (hanged != NONE) {
            die(hanged);
        }
        return hanged;
    }

    private void die(int player) {
        dead[player] = true;
        facts.add(w -> w[player] == truth[player]);
        int witches = 0;
        int others = 0;
        for (int p = 0; p < n; p++) {
            witches += !dead[p] && truth[p] == WITCH ? 1 : 0;
            others += !dead[p] && truth[p] != WITCH ? 1 : 0;
        }
        if (witches == 0 || witches >= others) {
            phase = witches == 0 ? VILLAGE_WON : WITCHES_WON;
        }
    }

    int protect(int player) {
        state(phase == NIGHT && !dead[who(GUARD)]);
        index(player);
        argument(!dead[player] && player != protectedBefore);
        int before = protects;
        protects = player;
        return before;
    }

    int attack(int player) {
        state(phase == NIGHT);
        index(player);
        argument(!dead[player] && truth[player] != WITCH);
        int before = attacks;
        attacks = player;
        return before;
    }

    int look(int player) {
        state(phase == NIGHT && !dead[who(SEER)]);
        index(player);
        argument(!dead[player] && truth[player] != SEER);
        int before = looks;
        looks = player;
        return before;
    }

    int endNight() {
        state(phase == NIGHT);
        int died = NONE;
        if (attacks != NONE && attacks != protects) {
            died = attacks;
            die(died);
        }
        if (phase == NIGHT) {
            if (looks != NONE && !dead[who(SEER)]) {
                seen[looks] = true;
            }
            day++;
            phase = DAY;
        }
        protectedBefore = protects;
        forgetChoices();
        return died;
    }

    private void forgetChoices() {
        protects = NONE;
        attacks = NONE;
        looks = NONE;
    }

    int day() {
        state(phase != NO_GAME);
        return day;
    }

    int alive() {
        state(phase != NO_GAME);
        int set = 0;
        for (int p = 0; p < n; p++) {
            set |= dead[p] ? 0 : 1 << p;
        }
        return set;
    }

    int votesFor(int player) {
        state(phase != NO_GAME);
        index(player);
        int count = 0;
        for (Integer vote : votes) {
            count += vote != null && vote == player ? 1 : 0;
        }
        return count;
    }

    int lookedAt() {
        state(phase != NO_GAME);
        int set = 0;
        for (int p = 0; p < n; p++) {
            set |= seen[p] ? 1 << p : 0;
        }
        return set;
    }

    int worlds(int viewer) {
        return possible(viewer).size();
    }

    int worldsWith(int viewer, int player, int role) {
        List<int[]> possible = possible(viewer);
        index(player);
        argument(role >= 0 && role <= 3);
        return with(possible, player, role);
    }

    private static int with(List<int[]> worlds, int player, int role) {
        int count = 0;
        for (int[] w : worlds) {
            count += w[player] == role ? 1 : 0;
        }
        return count;
    }

    int sureWitches(int viewer) {
        List<int[]> possible = possible(viewer);
        int set = 0;
        for (int p = 0; p < n; p++) {
            set |= with(possible, p, WITCH) == possible.size() ? 1 << p : 0;
        }
        return set;
    }

    int sureHonest(int viewer) {
        List<int[]> possible = possible(viewer);
        int set = 0;
        for (int p = 0; p < n; p++) {
            set |= with(possible, p, WITCH) == 0 ? 1 << p : 0;
        }
        return set;
    }

    int witchSets(int viewer) {
        Set<Integer> sets = new HashSet<>();
        for (int[] w : possible(viewer)) {
            sets.add(witchesOf(w));
        }
        return sets.size();
    }

    int suspect(int viewer) {
        List<int[]> possible = possible(viewer);
        int best = NONE;
        for (int p = n - 1; p >= 0; p--) {
            if (!dead[p] && p != viewer
                    && (best == NONE || with(possible, p, WITCH) >= with(possible, best, WITCH))) {
                best = p;
            }
        }
        return best;
    }

    int bestLook() {
        state(phase != NO_GAME);
        List<int[]> possible = possible(who(SEER));
        int best = NONE;
        for (int p = n - 1; p >= 0; p--) {
            if (!dead[p] && p != who(SEER) && (best == NONE || greater(possible, p) <= greater(possible, best))) {
                best = p;
            }
        }
        return best;
    }

    private static int greater(List<int[]> worlds, int player) {
        int witch = with(worlds, player, WITCH);
        return Math.max(witch, worlds.size() - witch);
    }

    boolean isPossible(int viewer, int witches, int seer, int guard) {
        List<int[]> possible = possible(viewer);
        index(seer);
        index(guard);
        for (int[] w : possible) {
            if (witchesOf(w) == witches && w[seer] == SEER && w[guard] == GUARD) {
                return true;
            }
        }
        return false;
    }

    private static int witchesOf(int[] world) {
        int set = 0;
        for (int p = 0; p < world.length; p++) {
            set |= world[p] == WITCH ? 1 << p : 0;
        }
        return set;
    }

    private List<int[]> possible(int viewer) {
        state(phase != NO_GAME);
        if (viewer != NONE) {
            index(viewer);
        }
        List<int[]> possible = new ArrayList<>();
        for (int[] w : deals) {
            if (agreesWithAll(w) && (viewer == NONE || agreesFor(viewer, w))) {
                possible.add(w);
            }
        }
        return possible;
    }

    private boolean agreesWithAll(int[] world) {
        for (Fact fact : facts) {
            if (!fact.agrees(world)) {
                return false;
            }
        }
        return true;
    }

    private boolean agreesFor(int viewer, int[] world) {
        if (world[viewer] != truth[viewer]) {
            return false;
        }
        for (int p = 0; p < n; p++) {
            boolean knows = truth[viewer] == WITCH || truth[viewer] == SEER && seen[p];
            if (knows && (world[p] == WITCH) != (truth[p] == WITCH)) {
                return false;
            }
        }
        return true;
    }

    private int who(int role) {
        for (int p = 0; p < n; p++) {
            if (truth[p] == role) {
                return p;
            }
        }
        return NONE;
    }

    private static void state(boolean right) {
        if (!right) {
            throw new IllegalStateException();
        }
    }

    private static void argument(boolean right) {
        if (!right) {
            throw new IllegalArgumentException();
        }
    }

    private void index(int player) {
        if (player < 0 || player >= n) {
            throw new IndexOutOfBoundsException();
        }
    }
}
