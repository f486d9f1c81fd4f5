import java.util.Arrays;
import java.util.NoSuchElementException;

/** A game of hidden roles with a book of worlds; see README.md and the document's promises. */
public final class WitchTrial {
    public static final int NONE = -1;
    public static final int VILLAGER = 0, WITCH = 1, SEER = 2, GUARD = 3;
    public static final int IS_WITCH = 0, IS_HONEST = 1, IS_SEER = 2, IS_GUARD = 3;
    public static final int NO_GAME = 0, DAY = 1, NIGHT = 2, VILLAGE_WON = 3, WITCHES_WON = 4;

    private static final int FEWEST_PLAYERS = 4;
    private static final int MOST_PLAYERS = 8;

    // A world is one int of three sets of players: the witches in the low bits, above them the set
    // of the seer alone, above it that of the guard alone. So one mask can say of any players
    // which of their roles are known, and one comparison with the true world settles all of them.
    private static final int SEER_SHIFT = MOST_PLAYERS;
    private static final int GUARD_SHIFT = 2 * MOST_PLAYERS;
    private static final int WITCH_BITS = (1 << MOST_PLAYERS) - 1;

    private final Book book = new Book();
    private final int[] voteOf = new int[MOST_PLAYERS];

    private int phase = NO_GAME;
    private int dayNumber;
    private int playerCount;
    private int witchSet;
    private int seerPlayer;
    private int guardPlayer;
    private int aliveSet;
    private int lookedAtSet;
    private int protectChoice = NONE;
    private int attackChoice = NONE;
    private int lookChoice = NONE;
    private int protectedLastNight = NONE;

    public WitchTrial() {
    }

    // ---- the game

    public int start(int players, int witches, int seer, int guard) throws IllegalArgumentException {
        if (!isDeal(players, witches, seer, guard)) {
            throw new IllegalArgumentException("these roles cannot be dealt");
        }
        playerCount = players;
        witchSet = witches;
        seerPlayer = seer;
        guardPlayer = guard;
        aliveSet = everyone(players);
        lookedAtSet = 0;
        dayNumber = 1;
        phase = DAY;
        protectedLastNight = NONE;
        forgetVotes();
        forgetChoices();
        book.open(players, worldOf(witches, seer, guard));
        return book.count(knownBits(NONE));
    }

    public int phase() {
        return phase;
    }

    public int claim(int player, int kind, int other)
            throws IllegalStateException, IndexOutOfBoundsException, IllegalArgumentException,
            NoSuchElementException {
        requireGame();
        requirePlayer(player);
        requirePlayer(other);
        if (kind < IS_WITCH || kind > IS_GUARD) {
            throw new IllegalArgumentException("there is no such kind of claim");
        }
        return makeClaim(player, claimedBits(kind, other), kind != IS_HONEST);
    }

    public int claimAmong(int player, int set)
            throws IllegalStateException, IndexOutOfBoundsException, IllegalArgumentException,
            NoSuchElementException {
        requireGame();
        requirePlayer(player);
        if ((set & ~everyone(playerCount)) != 0) {
            throw new IllegalArgumentException("the set has a player who does not exist");
        }
        return makeClaim(player, set, true);
    }

    public int vote(int player, int other)
            throws IllegalStateException, IndexOutOfBoundsException, IllegalArgumentException {
        requirePhase(DAY);
        requirePlayer(player);
        requirePlayer(other);
        if (!isAlive(player) || !isAlive(other)) {
            throw new IllegalArgumentException("the dead neither vote nor are voted for");
        }
        voteOf[player] = other;
        return countVotes(other);
    }

    public int closeVote() throws IllegalStateException {
        requirePhase(DAY);
        int hanged = playerWithMostVotes();
        forgetVotes();
        phase = NIGHT;
        if (hanged != NONE) {
            die(hanged);
        }
        return hanged;
    }

    public int protect(int player)
            throws IllegalStateException, IndexOutOfBoundsException, IllegalArgumentException {
        requirePhase(NIGHT);
        requireToLive(guardPlayer);
        requirePlayer(player);
        if (!isAlive(player) || player == protectedLastNight) {
            throw new IllegalArgumentException("the guard cannot protect this player");
        }
        int before = protectChoice;
        protectChoice = player;
        return before;
    }

    public int attack(int player)
            throws IllegalStateException, IndexOutOfBoundsException, IllegalArgumentException {
        requirePhase(NIGHT);
        requirePlayer(player);
        if (!isAlive(player) || isWitch(player)) {
            throw new IllegalArgumentException("the witches cannot attack this player");
        }
        int before = attackChoice;
        attackChoice = player;
        return before;
    }

    public int look(int player)
            throws IllegalStateException, IndexOutOfBoundsException, IllegalArgumentException {
        requirePhase(NIGHT);
        requireToLive(seerPlayer);
        requirePlayer(player);
        if (!isAlive(player) || player == seerPlayer) {
            throw new IllegalArgumentException("the seer cannot look at this player");
        }
        int before = lookChoice;
        lookChoice = player;
        return before;
    }

    public int endNight() throws IllegalStateException {
        requirePhase(NIGHT);
        int victim = attackChoice == protectChoice ? NONE : attackChoice;
        if (victim != NONE) {
            die(victim);
        }
        // An attack that ends the game has changed the phase: then nobody looks and no day comes.
        if (phase == NIGHT) {
            seerLooks();
            dayNumber++;
            phase = DAY;
        }
        protectedLastNight = protectChoice;
        forgetChoices();
        return victim;
    }

    // ---- what is to be seen

    public int day() throws IllegalStateException {
        requireGame();
        return dayNumber;
    }

    public int alive() throws IllegalStateException {
        requireGame();
        return aliveSet;
    }

    public int votesFor(int player) throws IllegalStateException, IndexOutOfBoundsException {
        requireGame();
        requirePlayer(player);
        return countVotes(player);
    }

    public int lookedAt() throws IllegalStateException {
        requireGame();
        return lookedAtSet;
    }

    // ---- the book of worlds

    public int worlds(int viewer) throws IllegalStateException, IndexOutOfBoundsException {
        requireGame();
        requireViewer(viewer);
        return book.count(knownBits(viewer));
    }

    public int worldsWith(int viewer, int player, int role)
            throws IllegalStateException, IndexOutOfBoundsException, IllegalArgumentException {
        requireGame();
        requireViewer(viewer);
        requirePlayer(player);
        if (role < VILLAGER || role > GUARD) {
            throw new IllegalArgumentException("there is no such role");
        }
        return book.countWithRole(knownBits(viewer), player, role);
    }

    public int sureWitches(int viewer) throws IllegalStateException, IndexOutOfBoundsException {
        requireGame();
        requireViewer(viewer);
        return book.witchesInAll(knownBits(viewer));
    }

    public int sureHonest(int viewer) throws IllegalStateException, IndexOutOfBoundsException {
        requireGame();
        requireViewer(viewer);
        return everyone(playerCount) & ~book.witchesInAny(knownBits(viewer));
    }

    public int witchSets(int viewer) throws IllegalStateException, IndexOutOfBoundsException {
        requireGame();
        requireViewer(viewer);
        return book.countWitchSets(knownBits(viewer));
    }

    public int suspect(int viewer) throws IllegalStateException, IndexOutOfBoundsException {
        requireGame();
        requireViewer(viewer);
        int known = knownBits(viewer);
        int suspected = NONE;
        int most = -1;
        for (int player = 0; player < playerCount; player++) {
            if (isAlive(player) && player != viewer) {
                int count = book.countWithRole(known, player, WITCH);
                if (count > most) {
                    most = count;
                    suspected = player;
                }
            }
        }
        return suspected;
    }

    public int bestLook() throws IllegalStateException {
        requireGame();
        int known = knownBits(seerPlayer);
        int all = book.count(known);
        int best = NONE;
        int least = all + 1;
        for (int player = 0; player < playerCount; player++) {
            if (isAlive(player) && player != seerPlayer) {
                int count = book.countWithRole(known, player, WITCH);
                int greater = Math.max(count, all - count);
                if (greater < least) {
                    least = greater;
                    best = player;
                }
            }
        }
        return best;
    }

    public boolean isPossible(int viewer, int witches, int seer, int guard)
            throws IllegalStateException, IndexOutOfBoundsException {
        requireGame();
        requireViewer(viewer);
        requirePlayer(seer);
        requirePlayer(guard);
        // A witch beyond the low bits would be taken for a seer or a guard.
        return (witches & ~WITCH_BITS) == 0
                && book.contains(worldOf(witches, seer, guard), knownBits(viewer));
    }

    // ---- what the calls ask for

    private void requireGame() {
        if (phase == NO_GAME) {
            throw new IllegalStateException("there is no game");
        }
    }

    private void requirePhase(int wanted) {
        if (phase != wanted) {
            throw new IllegalStateException("it is not the time for this");
        }
    }

    private void requireToLive(int player) {
        if (!isAlive(player)) {
            throw new IllegalStateException("who would have to do this is dead");
        }
    }

    private void requirePlayer(int player) {
        if (player < 0 || player >= playerCount) {
            throw new IndexOutOfBoundsException("there is no such player");
        }
    }

    private void requireViewer(int viewer) {
        if (viewer != NONE) {
            requirePlayer(viewer);
        }
    }

    private static boolean isDeal(int players, int witches, int seer, int guard) {
        return players >= FEWEST_PLAYERS && players <= MOST_PLAYERS
                && (witches & ~everyone(players)) == 0
                && witches != 0 && 2 * Integer.bitCount(witches) < players
                && isHonestIn(players, witches, seer)
                && isHonestIn(players, witches, guard)
                && seer != guard;
    }

    private static boolean isHonestIn(int players, int witches, int player) {
        return player >= 0 && player < players && (witches & setOf(player)) == 0;
    }

    // ---- the players

    private static int setOf(int player) {
        return 1 << player;
    }

    private static int everyone(int players) {
        return (1 << players) - 1;
    }

    private boolean isAlive(int player) {
        return (aliveSet & setOf(player)) != 0;
    }

    private boolean isWitch(int player) {
        return (witchSet & setOf(player)) != 0;
    }

    // ---- how a day and a night go

    private int makeClaim(int player, int bits, boolean said) {
        if (phase != DAY || !isAlive(player) || !book.allowsClaim(player, bits, said)) {
            throw new NoSuchElementException("this player cannot claim this now");
        }
        book.keepClaim(player, bits, said);
        return book.count(knownBits(NONE));
    }

    private int countVotes(int player) {
        int count = 0;
        for (int vote : voteOf) {
            if (vote == player) {
                count++;
            }
        }
        return count;
    }

    private int playerWithMostVotes() {
        int leader = NONE;
        int most = 0;
        for (int player = 0; player < playerCount; player++) {
            int count = countVotes(player);
            if (count > most) {
                most = count;
                leader = player;
            } else if (count == most) {
                leader = NONE;
            }
        }
        return leader;
    }

    private void forgetVotes() {
        Arrays.fill(voteOf, NONE);
    }

    private void forgetChoices() {
        protectChoice = NONE;
        attackChoice = NONE;
        lookChoice = NONE;
    }

    private void die(int player) {
        aliveSet = aliveSet & ~setOf(player);
        int witchesAlive = Integer.bitCount(aliveSet & witchSet);
        int othersAlive = Integer.bitCount(aliveSet & ~witchSet);
        if (witchesAlive == 0) {
            phase = VILLAGE_WON;
        } else if (witchesAlive >= othersAlive) {
            phase = WITCHES_WON;
        }
    }

    private void seerLooks() {
        if (lookChoice != NONE && isAlive(seerPlayer)) {
            lookedAtSet = lookedAtSet | setOf(lookChoice);
        }
    }

    // ---- worlds and what is known of them

    private static int worldOf(int witches, int seer, int guard) {
        return witches | setOf(seer) << SEER_SHIFT | setOf(guard) << GUARD_SHIFT;
    }

    private static int witchesOf(int world) {
        return world & WITCH_BITS;
    }

    private static int roleBits(int set) {
        return set | set << SEER_SHIFT | set << GUARD_SHIFT;
    }

    private static int bitOfRole(int player, int role) {
        switch (role) {
            case WITCH:
                return setOf(player);
            case SEER:
                return setOf(player) << SEER_SHIFT;
            case GUARD:
                return setOf(player) << GUARD_SHIFT;
            default:
                return 0;
        }
    }

    private static int claimedBits(int kind, int other) {
        switch (kind) {
            case IS_SEER:
                return bitOfRole(other, SEER);
            case IS_GUARD:
                return bitOfRole(other, GUARD);
            default:
                return bitOfRole(other, WITCH);
        }
    }

    /** The bits of the true world that a viewer knows, by the roles of the dead and its own. */
    private int knownBits(int viewer) {
        int known = roleBits(everyone(playerCount) & ~aliveSet);
        if (viewer == NONE) {
            return known;
        }
        known = known | roleBits(setOf(viewer));
        if (isWitch(viewer)) {
            return known | WITCH_BITS;
        }
        return viewer == seerPlayer ? known | lookedAtSet : known;
    }

    /**
     * The worlds that agree with all claims. The dead are not struck out here: their roles are
     * bits of the true world that every viewer knows, and all questions name the known bits.
     */
    private static final class Book {
        // Eight players with three witches: 56 sets of witches, then 5 for the seer, 4 for the guard.
        private static final int MOST_WORLDS = 56 * 5 * 4;
        private static final int NO_WORLD = 0;

        // The worlds stand in front, in the order of their sets of witches; then comes NO_WORLD.
        private final int[] pages = new int[MOST_WORLDS];
        private int truth;

        private void open(int players, int trueWorld) {
            truth = trueWorld;
            Arrays.fill(pages, NO_WORLD);
            int witchCount = Integer.bitCount(witchesOf(trueWorld));
            int filled = 0;
            for (int witches = 1; witches <= everyone(players); witches++) {
                if (Integer.bitCount(witches) == witchCount) {
                    filled = addWorlds(players, witches, filled);
                }
            }
        }

        private int addWorlds(int players, int witches, int filled) {
            int next = filled;
            for (int seer = 0; seer < players; seer++) {
                for (int guard = 0; guard < players; guard++) {
                    boolean isWorld = seer != guard && isHonestIn(players, witches, seer)
                            && isHonestIn(players, witches, guard);
                    if (isWorld && next >= 0 && next < pages.length) {
                        pages[next] = worldOf(witches, seer, guard);
                        next++;
                    }
                }
            }
            return next;
        }

        // A claim says of some bits whether one of them is set; only a witch may say it wrongly.
        private static boolean agreesWithClaim(int world, int player, int bits, boolean said) {
            return (world & setOf(player)) != 0 || ((world & bits) != 0) == said;
        }

        private boolean allowsClaim(int player, int bits, boolean said) {
            return agreesWithClaim(truth, player, bits, said);
        }

        private void keepClaim(int player, int bits, boolean said) {
            int kept = 0;
            for (int i = 0; i < pages.length && pages[i] != NO_WORLD; i++) {
                int world = pages[i];
                pages[i] = NO_WORLD;
                if (agreesWithClaim(world, player, bits, said) && kept < pages.length) {
                    pages[kept] = world;
                    kept++;
                }
            }
        }

        private boolean agrees(int world, int known) {
            return ((world ^ truth) & known) == 0;
        }

        private int count(int known) {
            int count = 0;
            for (int i = 0; i < pages.length && pages[i] != NO_WORLD; i++) {
                if (agrees(pages[i], known)) {
                    count++;
                }
            }
            return count;
        }

        private int countWithRole(int known, int player, int role) {
            int allBits = roleBits(setOf(player));
            int roleBit = bitOfRole(player, role);
            int count = 0;
            for (int i = 0; i < pages.length && pages[i] != NO_WORLD; i++) {
                if ((pages[i] & allBits) == roleBit && agrees(pages[i], known)) {
                    count++;
                }
            }
            return count;
        }

        private int witchesInAll(int known) {
            int common = WITCH_BITS;
            for (int i = 0; i < pages.length && pages[i] != NO_WORLD; i++) {
                if (agrees(pages[i], known)) {
                    common = common & witchesOf(pages[i]);
                }
            }
            return common;
        }

        private int witchesInAny(int known) {
            int union = 0;
            for (int i = 0; i < pages.length && pages[i] != NO_WORLD; i++) {
                if (agrees(pages[i], known)) {
                    union = union | witchesOf(pages[i]);
                }
            }
            return union;
        }

        private int countWitchSets(int known) {
            int count = 0;
            int last = 0;
            for (int i = 0; i < pages.length && pages[i] != NO_WORLD; i++) {
                // Worlds with one set of witches are neighbours, so a new set shows as a change.
                if (agrees(pages[i], known) && witchesOf(pages[i]) != last) {
                    last = witchesOf(pages[i]);
                    count++;
                }
            }
            return count;
        }

        private boolean contains(int world, int known) {
            for (int i = 0; i < pages.length && pages[i] != NO_WORLD; i++) {
                if (pages[i] == world) {
                    return agrees(world, known);
                }
            }
            return false;
        }
    }
}
