/** The sentences of the promises 16 to 23 that name a boundary case: the book of worlds. */
public final class BookEdgeTest {
    private static final Check check = new Check("BookEdgeTest");
    private static final int NONE = WitchTrial.NONE;
    private static final int VILLAGER = WitchTrial.VILLAGER, WITCH = WitchTrial.WITCH;
    private static final int SEER = WitchTrial.SEER, GUARD = WitchTrial.GUARD;
    private static final int MIN = Integer.MIN_VALUE, MAX = Integer.MAX_VALUE;

    /** What is no viewer of any game; as a player, NONE is none either. */
    private static final int[] NOBODY = {MIN, MIN + 1, -32, -2, 8, 9, 31, 32, 33, 64, 256, MAX - 1, MAX};

    public static void main(String[] args) {
        noGame();
        worlds();
        worldsWith();
        worldsWithRefusals();
        sureWitches();
        sureHonest();
        witchSets();
        suspects();
        suspectsAtTheEnd();
        bestLooks();
        bestLooksAtTheEnd();
        isPossible();
        isPossibleForViewers();
        isPossibleRefusals();
        check.finish();
    }

    private static void noGame() {
        Scene none = Scene.NO_GAME;
        check.sentence("P16 to P23: each call throws IllegalStateException if there is no game");
        for (int p : new int[] {0, NONE}) {
            check.refuses(none, "worlds", Check.STATE, t -> t.worlds(p));
            check.refuses(none, "worldsWith", Check.STATE, t -> t.worldsWith(p, 0, WITCH));
            check.refuses(none, "sureWitches", Check.STATE, t -> t.sureWitches(p));
            check.refuses(none, "sureHonest", Check.STATE, t -> t.sureHonest(p));
            check.refuses(none, "witchSets", Check.STATE, t -> t.witchSets(p));
            check.refuses(none, "suspect", Check.STATE, t -> t.suspect(p));
            check.refuses(none, "isPossible", Check.STATE, t -> t.isPossible(p, 1, 1, 2));
        }
        check.refuses(none, "bestLook", Check.STATE, t -> t.bestLook());
        check.sentence("P16 to P23: so it does with arguments for which there are other exceptions too");
        for (int p : new int[] {MIN, -2, 8, MAX}) {
            check.refuses(none, "worlds", Check.STATE, t -> t.worlds(p));
            check.refuses(none, "worldsWith", Check.STATE, t -> t.worldsWith(p, p, 4));
            check.refuses(none, "sureWitches", Check.STATE, t -> t.sureWitches(p));
            check.refuses(none, "sureHonest", Check.STATE, t -> t.sureHonest(p));
            check.refuses(none, "witchSets", Check.STATE, t -> t.witchSets(p));
            check.refuses(none, "suspect", Check.STATE, t -> t.suspect(p));
            check.refuses(none, "isPossible", Check.STATE, t -> t.isPossible(p, -1, p, p));
        }
    }

    /** Each viewer that there is not is refused, by day, by night and when the game is over. */
    private static void refusesNobody(String call, Viewing viewing) {
        for (Scene scene : new Scene[] {Scene.EIGHT, Scene.SECOND_NIGHT, Scene.VILLAGE_WON}) {
            for (int p : NOBODY) {
                check.refuses(scene, call + "(" + p + ")", Check.INDEX, t -> viewing.of(t, p));
            }
        }
        check.refuses(Scene.SIX, call + "(6)", Check.INDEX, t -> viewing.of(t, 6));
        check.refuses(Scene.FOUR, call + "(4)", Check.INDEX, t -> viewing.of(t, 4));
        check.refuses(Scene.SMALLER_GAME, call + "(5)", Check.INDEX, t -> viewing.of(t, 5));
    }

    private interface Viewing {
        Object of(WitchTrial trial, int viewer);
    }

    // ---- promises 16 and 17

    private static void worlds() {
        check.sentence("P16: NONE as a viewer, the first and the last player");
        check.answers(Scene.SIX, "worlds(NONE)", 180, t -> t.worlds(NONE));
        check.answers(Scene.SIX, "worlds(0)", 12, t -> t.worlds(0));
        check.answers(Scene.SIX, "worlds(5)", 60, t -> t.worlds(5));
        check.sentence("P16: dead players are viewers too");
        check.answers(Scene.SECOND_DAY, "worlds(6)", true, t -> t.worlds(6) == t.worlds(NONE));
        check.answers(Scene.GUARD_DEAD, "worlds(4)", true, t -> t.worlds(4) == t.worlds(NONE));
        check.sentence("P16: 1 at least: in every scene, for every viewer");
        for (Scene scene : Scene.ALL) {
            for (int p = NONE; p < scene.players; p++) {
                int viewer = p;
                if (scene.players > 0) {
                    check.answers(scene, "worlds(" + p + ") > 0", true, t -> t.worlds(viewer) >= 1);
                }
            }
        }
        check.sentence("P16: 1 at least: the true world is left when all is known");
        check.answers(Scene.FOUR, "worlds(NONE)", 1, t -> {
            allIsKnownOfFour(t);
            return t.worlds(NONE);
        });
        check.sentence("P16: no such player: below NONE, or too large");
        refusesNobody("worlds", (t, p) -> t.worlds(p));
    }

    /** Witch 0, seer 1, guard 2, villager 3: claims that leave the true world alone. */
    private static void allIsKnownOfFour(WitchTrial t) {
        t.claim(3, WitchTrial.IS_WITCH, 0);
        t.claim(3, WitchTrial.IS_SEER, 1);
        t.claim(3, WitchTrial.IS_GUARD, 2);
        t.claim(1, WitchTrial.IS_HONEST, 3);
    }

    private static void worldsWith() {
        check.sentence("P17: each role, of the first and of the last player; together they are all worlds");
        int[] due = {60, 60, 30, 30};
        for (int r = VILLAGER; r <= GUARD; r++) {
            int role = r;
            check.answers(Scene.SIX, "role " + r + " of 0", due[r], t -> t.worldsWith(NONE, 0, role));
            check.answers(Scene.SIX, "role " + r + " of 5", due[r], t -> t.worldsWith(NONE, 5, role));
        }
        check.sentence("P17: none: a role that the player cannot have; all: its role when that is known");
        check.answers(Scene.SIX, "a villager is no witch for itself", 0, t -> t.worldsWith(5, 5, WITCH));
        check.answers(Scene.SIX, "a villager is one for itself", 60, t -> t.worldsWith(5, 5, VILLAGER));
        check.answers(Scene.SIX, "for a witch no other is one", 0, t -> t.worldsWith(0, 5, WITCH));
        check.answers(Scene.SIX, "for a witch the other one is", 12, t -> t.worldsWith(0, 1, WITCH));
        check.answers(Scene.GUARD_DEAD, "the dead guard", 35 * 4, t -> t.worldsWith(NONE, 4, GUARD));
        check.answers(Scene.GUARD_DEAD, "nobody else is the guard", 0, t -> t.worldsWith(NONE, 5, GUARD));
        check.sentence("P17: for the seer, who is looked at and no witch may be villager or guard, and not seer");
        check.answers(Scene.SEVEN_NIGHT, "0 is the guard", 10, t -> t.worldsWith(1, 0, GUARD));
        check.answers(Scene.SEVEN_NIGHT, "0 is a villager", 10 * 2, t -> t.worldsWith(1, 0, VILLAGER));
        check.answers(Scene.SEVEN_NIGHT, "0 is the seer", 0, t -> t.worldsWith(1, 0, SEER));
        check.answers(Scene.SEVEN_NIGHT, "0 is a witch", 0, t -> t.worldsWith(1, 0, WITCH));
    }

    private static void worldsWithRefusals() {
        check.sentence("P17: no such viewer: below NONE, or too large");
        refusesNobody("worldsWith viewer ", (t, p) -> t.worldsWith(p, 0, WITCH));
        check.sentence("P17: no such player: NONE too, below it, or too large");
        refusesNobody("worldsWith player ", (t, p) -> t.worldsWith(NONE, p, WITCH));
        check.refuses(Scene.EIGHT, "player NONE", Check.INDEX, t -> t.worldsWith(NONE, NONE, WITCH));
        check.refuses(Scene.EIGHT, "player NONE", Check.INDEX, t -> t.worldsWith(0, NONE, WITCH));
        check.sentence("P17: no such role: -1, 4, and the ends of int");
        for (int role : new int[] {MIN, -1, 4, 5, 32, MAX}) {
            check.refuses(Scene.SIX, "role " + role, Check.ARGUMENT, t -> t.worldsWith(NONE, 0, role));
            check.refuses(Scene.SIX, "role " + role, Check.ARGUMENT, t -> t.worldsWith(5, 5, role));
        }
        check.sentence("P17: of several exceptions the one that is listed first");
        check.refuses(Scene.SIX, "no viewer, no role", Check.INDEX, t -> t.worldsWith(6, 0, 4));
        check.refuses(Scene.SIX, "no player, no role", Check.INDEX, t -> t.worldsWith(0, 6, -1));
        check.refuses(Scene.SIX, "no viewer, no player, no role", Check.INDEX, t -> t.worldsWith(-2, -1, MAX));
    }

    // ---- promises 18 to 20

    private static void sureWitches() {
        check.sentence("P18: nobody is sure at first for all, and for who is no witch");
        for (int p : new int[] {NONE, 2, 3, 4, 5}) {
            check.answers(Scene.SIX, "sureWitches(" + p + ")", 0, t -> t.sureWitches(p));
        }
        check.sentence("P18: a witch is sure of all, the first and the last player too");
        check.answers(Scene.SIX, "sureWitches(0)", 3, t -> t.sureWitches(0));
        check.answers(Scene.SECOND_DAY, "sureWitches(7)", 129, t -> t.sureWitches(7));
        check.sentence("P18: one whom the seer has seen, for the seer alone; one who has died, for all");
        check.answers(Scene.SECOND_DAY, "sureWitches(3)", 1, t -> t.sureWitches(3));
        check.answers(Scene.SECOND_DAY, "sureWitches(NONE)", 0, t -> t.sureWitches(NONE));
        check.answers(Scene.SECOND_DAY, "sureWitches(NONE) with 0 dead", 1, t -> {
            t.closeVote();
            return t.sureWitches(NONE);
        });
        check.sentence("P18: all witches, when they are the only ones left");
        check.answers(Scene.FOUR, "sureWitches(NONE)", 1, t -> {
            allIsKnownOfFour(t);
            return t.sureWitches(NONE);
        });
        check.sentence("P18: no such viewer: below NONE, or too large");
        refusesNobody("sureWitches", (t, p) -> t.sureWitches(p));
    }

    private static void sureHonest() {
        check.sentence("P19: nobody is sure at first for all; itself alone for who is no witch");
        check.answers(Scene.SIX, "sureHonest(NONE)", 0, t -> t.sureHonest(NONE));
        for (int p = 2; p < 6; p++) {
            int viewer = p;
            check.answers(Scene.SIX, "sureHonest(" + p + ")", 1 << p, t -> t.sureHonest(viewer));
        }
        check.sentence("P19: for a witch all others, but nobody who does not exist");
        check.answers(Scene.FOUR, "sureHonest(0)", 14, t -> t.sureHonest(0));
        check.answers(Scene.SIX, "sureHonest(1)", 60, t -> t.sureHonest(1));
        check.answers(Scene.EIGHT, "sureHonest(2)", 248, t -> t.sureHonest(2));
        check.answers(Scene.SMALLER_GAME, "sureHonest(3)", 7, t -> t.sureHonest(3));
        check.sentence("P19: one whom the seer has seen, for the seer alone; those who have died, for all");
        check.answers(Scene.SEVEN_NIGHT, "sureHonest(1)", 3, t -> t.sureHonest(1));
        check.answers(Scene.SEVEN_NIGHT, "sureHonest(NONE)", 0, t -> t.sureHonest(NONE));
        check.answers(Scene.GUARD_DEAD, "sureHonest(NONE)", 16, t -> t.sureHonest(NONE));
        check.sentence("P19: all the honest, when all witches are dead");
        check.answers(Scene.VILLAGE_WON, "sureHonest(NONE)", 60, t -> t.sureHonest(NONE));
        check.sentence("P19: all the honest, when one world is left");
        check.answers(Scene.FOUR, "sureHonest(NONE)", 14, t -> {
            allIsKnownOfFour(t);
            return t.sureHonest(NONE);
        });
        check.sentence("P19: no such viewer: below NONE, or too large");
        refusesNobody("sureHonest", (t, p) -> t.sureHonest(p));
    }

    private static void witchSets() {
        check.sentence("P20: as many as can be at first, for all and for who is no witch; one for a witch");
        check.answers(Scene.FOUR, "witchSets(NONE)", 4, t -> t.witchSets(NONE));
        check.answers(Scene.FOUR, "witchSets(3)", 3, t -> t.witchSets(3));
        check.answers(Scene.FOUR, "witchSets(0)", 1, t -> t.witchSets(0));
        check.answers(Scene.SIX, "witchSets(NONE)", 15, t -> t.witchSets(NONE));
        check.answers(Scene.NO_GAME, "witchSets(NONE) of eight, the most", 56, t -> {
            t.start(8, 7, 3, 4);
            return t.witchSets(NONE);
        });
        check.answers(Scene.SIX, "witchSets(5)", 10, t -> t.witchSets(5));
        check.sentence("P20: different sets: worlds with the same one count once, also after a claim about the seer");
        check.answers(Scene.SIX, "witchSets(NONE)", 5 + 6, t -> {
            t.claim(5, WitchTrial.IS_SEER, 2);
            return t.witchSets(NONE);
        });
        check.answers(Scene.SIX, "witchSets(0)", 1, t -> t.witchSets(0));
        check.sentence("P20: one, when all witches are known; the lowest and the highest set count");
        check.answers(Scene.VILLAGE_WON, "witchSets(NONE)", 1, t -> t.witchSets(NONE));
        check.answers(Scene.FOUR, "witchSets(NONE)", 1, t -> {
            allIsKnownOfFour(t);
            return t.witchSets(NONE);
        });
        check.sentence("P20: no such viewer: below NONE, or too large");
        refusesNobody("witchSets", (t, p) -> t.witchSets(p));
    }

    // ---- promises 21 and 22

    private static void suspects() {
        check.sentence("P21: of several the lowest: all alike at first");
        check.answers(Scene.SIX, "suspect(NONE)", 0, t -> t.suspect(NONE));
        check.answers(Scene.SIX, "suspect(5)", 0, t -> t.suspect(5));
        check.sentence("P21: of several the lowest, that is not the player 0: 1 and 2 are surely witches");
        for (int viewer : new int[] {NONE, 3, 6, 7}) {
            check.answers(Scene.EIGHT, "suspect(" + viewer + ")", 1, t -> {
                t.claim(1, WitchTrial.IS_WITCH, 1);
                t.claim(2, WitchTrial.IS_WITCH, 2);
                return t.suspect(viewer);
            });
        }
        check.sentence("P21: the player who is a witch in most worlds, though it is the last: in 5 of the 6 pairs");
        check.answers(Scene.SIX, "suspect(NONE)", 5, t -> {
            t.claim(0, WitchTrial.IS_WITCH, 5);
            t.claim(1, WitchTrial.IS_WITCH, 5);
            return t.suspect(NONE);
        });
        check.sentence("P21: the viewer is left out, also one who is surely a witch; then it is the next");
        check.answers(Scene.SIX, "suspect(0)", 1, t -> t.suspect(0));
        check.answers(Scene.SIX, "suspect(1)", 0, t -> t.suspect(1));
        check.answers(Scene.FOUR, "suspect(0), no other witch", 1, t -> t.suspect(0));
        check.sentence("P21: the dead are left out, also one who is surely a witch");
        check.answers(Scene.SIX, "suspect(NONE)", 1, t -> {
            Check.hang(t, 0);
            return t.suspect(NONE);
        });
        check.sentence("P21: a dead viewer leaves out nobody who lives");
        check.answers(Scene.SIX, "suspect(0), who is dead", 1, t -> {
            Check.hang(t, 0);
            return t.suspect(0);
        });
        check.answers(Scene.SIX, "suspect(5), who is dead", 0, t -> {
            Check.hang(t, 5);
            return t.suspect(5);
        });
        check.sentence("P21: what the viewer knows counts, not what all know");
        check.answers(Scene.SEVEN_NIGHT, "suspect(1), the seer", 6, t -> {
            t.endNight();
            return t.suspect(1);
        });
        check.answers(Scene.SEVEN_NIGHT, "suspect(NONE)", 0, t -> {
            t.endNight();
            return t.suspect(NONE);
        });
        check.sentence("P21: no such viewer: below NONE, or too large");
        refusesNobody("suspect", (t, p) -> t.suspect(p));
    }

    private static void suspectsAtTheEnd() {
        check.sentence("P21: with no witch alive all are alike: the lowest living one but the viewer");
        check.answers(Scene.VILLAGE_WON, "suspect(NONE)", 2, t -> t.suspect(NONE));
        check.answers(Scene.VILLAGE_WON, "suspect(2)", 3, t -> t.suspect(2));
        check.answers(Scene.VILLAGE_WON, "suspect(4)", 2, t -> t.suspect(4));
        check.sentence("P21: with two alive, the fewest that there can be, the other one");
        check.answers(Scene.FOUR, "suspect(0)", 2, t -> {
            leaveTwoOfFour(t);
            return t.suspect(0);
        });
        check.answers(Scene.FOUR, "suspect(2)", 0, t -> {
            leaveTwoOfFour(t);
            return t.suspect(2);
        });
        check.answers(Scene.FOUR, "suspect(1), who is dead", 0, t -> {
            leaveTwoOfFour(t);
            return t.suspect(1);
        });
    }

    /** The villager is hanged and the seer killed; the witch and the guard are left. */
    private static void leaveTwoOfFour(WitchTrial t) {
        Check.hang(t, 3);
        t.attack(1);
        t.endNight();
    }

    private static void bestLooks() {
        check.sentence("P22: of several the lowest: all alike at first");
        check.answers(Scene.SIX, "bestLook()", 0, t -> t.bestLook());
        check.sentence("P22: the seer itself is left out, also where it is the lowest");
        check.answers(Scene.SMALLER_GAME, "bestLook()", 1, t -> t.bestLook());
        check.sentence("P22: the dead are left out");
        check.answers(Scene.SIX, "bestLook()", 1, t -> {
            Check.hang(t, 0);
            return t.bestLook();
        });
        check.sentence("P22: parted most evenly: one who is surely a witch, or surely none, is not it");
        check.answers(Scene.SECOND_DAY, "bestLook()", 1, t -> t.bestLook());
        check.answers(Scene.SEVEN_NIGHT, "bestLook()", 2, t -> t.bestLook());
        check.sentence("P22: the greater number is least: of 6 pairs 1 is in three, 0 in four, 3, 4 and 5 in fewer");
        check.answers(Scene.SIX, "bestLook()", 1, t -> {
            t.claimAmong(2, 1 | 2);
            t.claimAmong(2, 1 | 8 | 16);
            return t.bestLook();
        });
        check.sentence("P22: what the seer knows counts, with the seer dead too");
        check.answers(Scene.SECOND_DAY, "bestLook()", 1, t -> {
            t.closeVote();
            t.attack(3);
            t.endNight();
            return t.bestLook();
        });
        check.answers(Scene.SEER_DEAD, "bestLook()", 0, t -> t.bestLook());
    }

    private static void bestLooksAtTheEnd() {
        check.sentence("P22: with all known to the seer, all are alike: the lowest living one but the seer");
        check.answers(Scene.VILLAGE_WON, "bestLook()", 3, t -> t.bestLook());
        check.sentence("P22: with two alive, the fewest that there can be, one of them; the other if one is the seer");
        check.answers(Scene.FOUR, "bestLook(), the seer dead", 0, t -> {
            leaveTwoOfFour(t);
            return t.bestLook();
        });
        check.answers(Scene.FOUR, "bestLook(), the witch is the other", 0, t -> {
            Check.hang(t, 3);
            t.attack(2);
            t.endNight();
            return t.bestLook();
        });
        WitchTrial u = new WitchTrial();
        u.start(4, 8, 0, 1);
        Check.hang(u, 1);
        u.attack(2);
        u.endNight();
        check.equal("bestLook(), the seer is the lowest", u.bestLook(), 3);
    }

    // ---- promise 23

    private static void isPossible() {
        check.sentence("P23: a set with a witch too few or too many, with nobody, with all, is no world");
        for (int set : new int[] {0, 1, 2, 7, 3 | 32, 60, 63}) {
            check.answers(Scene.SIX, "witches " + set, false, t -> t.isPossible(NONE, set, 2, 3));
        }
        check.sentence("P23: a set with players who do not exist is no world, and throws nothing; the ends of int too");
        for (int set : new int[] {64, 65, 1 | 128, 192, 3 | 64, 3 | 256, 1 << 10, 3 | 1 << 10, 3 | 1 << 19, 3 | 1 << 24,
                3 | 1 << 30, MAX, MIN, MIN | 3, MIN + 1, -2, -1}) {
            check.answers(Scene.SIX, "witches " + set, false, t -> t.isPossible(NONE, set, 2, 3));
        }
        for (int set : new int[] {256, 257, 7 | 256, 3 | 1 << 11, 7 | 1 << 11, 7 | 1 << 20, MIN | 7, MAX, -1}) {
            check.answers(Scene.EIGHT, "witches " + set + " of eight", false, t -> t.isPossible(NONE, set, 3, 4));
        }
        check.sentence("P23: the seer is a witch, the guard is a witch, both are: no world");
        check.answers(Scene.SIX, "the seer", false, t -> t.isPossible(NONE, 3, 0, 3));
        check.answers(Scene.SIX, "the guard", false, t -> t.isPossible(NONE, 3, 2, 1));
        check.answers(Scene.SIX, "both", false, t -> t.isPossible(NONE, 3, 0, 1));
        check.sentence("P23: the seer is the guard: no world");
        check.answers(Scene.SIX, "2", false, t -> t.isPossible(NONE, 3, 2, 2));
        check.answers(Scene.SIX, "a witch", false, t -> t.isPossible(NONE, 3, 0, 0));
        check.sentence("P23: the true world is possible in every scene, for every viewer");
        for (Scene scene : Scene.ALL) {
            for (int p = NONE; p < scene.players; p++) {
                int viewer = p;
                if (scene.players > 0) {
                    check.answers(scene, "the true world for " + p, true,
                            t -> t.isPossible(viewer, scene.witches, scene.seer, scene.guard));
                }
            }
        }
        check.sentence("P23: the first and the last world of all");
        check.answers(Scene.EIGHT, "the first", true, t -> t.isPossible(NONE, 7, 3, 4));
        check.answers(Scene.EIGHT, "the last, where 5 is a witch", true, t -> t.isPossible(NONE, 32 | 64 | 128, 4, 3));
        check.answers(Scene.EIGHT, "the last, where 5 is honest", false, t -> t.isPossible(NONE, 16 | 64 | 128, 3, 2));
    }

    private static void isPossibleForViewers() {
        check.sentence("P23: NONE as a viewer: everyone, with nothing but what is known to all");
        check.answers(Scene.SIX, "another world", true, t -> t.isPossible(NONE, 48, 0, 1));
        check.sentence("P23: a world is possible for a viewer with its own role, and for a witch with its witches");
        check.answers(Scene.SIX, "a villager is a witch", false, t -> t.isPossible(5, 48, 0, 1));
        check.answers(Scene.SIX, "the seer is the guard", false, t -> t.isPossible(2, 48, 3, 2));
        check.answers(Scene.SIX, "the guard is the seer", false, t -> t.isPossible(3, 48, 3, 2));
        check.answers(Scene.SIX, "the seer is the seer", true, t -> t.isPossible(2, 48, 2, 3));
        check.answers(Scene.SIX, "a witch with another", false, t -> t.isPossible(0, 1 | 4, 3, 4));
        check.answers(Scene.SIX, "a witch with its own", true, t -> t.isPossible(0, 3, 5, 4));
        check.sentence("P23: the seer knows whom it has seen, dead or alive; nobody else does");
        check.answers(Scene.SECOND_DAY, "0 is honest", false, t -> t.isPossible(3, 2 | 16, 3, 7));
        check.answers(Scene.SECOND_DAY, "0 is honest, for a villager", true, t -> t.isPossible(5, 2 | 16, 3, 7));
        check.sentence("P23: the dead have their roles, for everyone");
        check.answers(Scene.GUARD_DEAD, "another guard", false, t -> t.isPossible(NONE, 7, 3, 5));
        check.answers(Scene.GUARD_DEAD, "the guard is a witch", false, t -> t.isPossible(NONE, 16 | 1 | 2, 3, 5));
        check.answers(Scene.GUARD_DEAD, "the guard is the seer", false, t -> t.isPossible(NONE, 7, 4, 3));
        check.answers(Scene.GUARD_DEAD, "the guard is the guard", true, t -> t.isPossible(NONE, 96 | 128, 0, 4));
        check.sentence("P23: the seer and the guard asked for may be dead or alive");
        check.answers(Scene.BOTH_DEAD, "both dead", true, t -> t.isPossible(NONE, 128, 3, 4));
        check.answers(Scene.BOTH_DEAD, "both alive", false, t -> t.isPossible(NONE, 128, 5, 6));
    }

    private static void isPossibleRefusals() {
        check.sentence("P23: no such viewer: below NONE, or too large");
        refusesNobody("isPossible viewer ", (t, p) -> t.isPossible(p, 1, 1, 2));
        check.sentence("P23: no such seer: NONE too, below it, or too large");
        refusesNobody("isPossible seer ", (t, p) -> t.isPossible(NONE, 1, p, 2));
        check.refuses(Scene.SIX, "seer NONE", Check.INDEX, t -> t.isPossible(NONE, 3, NONE, 3));
        check.sentence("P23: no such guard: NONE too, below it, or too large");
        refusesNobody("isPossible guard ", (t, p) -> t.isPossible(NONE, 1, 1, p));
        check.refuses(Scene.SIX, "guard NONE", Check.INDEX, t -> t.isPossible(NONE, 3, 2, NONE));
        check.sentence("P23: they throw also where the set of witches is none of a world");
        for (int set : new int[] {MIN, -1, 0, 63, 64, MAX}) {
            check.refuses(Scene.SIX, "viewer -2", Check.INDEX, t -> t.isPossible(-2, set, 2, 3));
            check.refuses(Scene.SIX, "seer 6", Check.INDEX, t -> t.isPossible(NONE, set, 6, 3));
            check.refuses(Scene.SIX, "guard 6", Check.INDEX, t -> t.isPossible(NONE, set, 2, 6));
        }
    }
}
