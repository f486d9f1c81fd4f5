/** The sentences of "Terms" that name a boundary case, each with the promises that it bears on. */
public final class TermsTest {
    private static final Check check = new Check("TermsTest");
    private static final int NONE = WitchTrial.NONE;
    private static final int VILLAGER = WitchTrial.VILLAGER, WITCH = WitchTrial.WITCH;
    private static final int SEER = WitchTrial.SEER, GUARD = WitchTrial.GUARD;
    private static final int DAY = WitchTrial.DAY, NIGHT = WitchTrial.NIGHT;
    private static final int VILLAGE_WON = WitchTrial.VILLAGE_WON, WITCHES_WON = WitchTrial.WITCHES_WON;

    public static void main(String[] args) {
        players();
        worldsAtFirst();
        claims();
        rolesOfTheDead();
        ownRoles();
        knowledge();
        votesByDay();
        closings();
        theGuard();
        attacks();
        looks();
        changedChoices();
        orderOfTheNight();
        forgottenChoices();
        villageWins();
        witchesWin();
        check.finish();
    }

    // ---- a game and its worlds

    private static void players() {
        check.sentence("Terms, P1: there is no game at first");
        check.equal("phase()", new WitchTrial().phase(), WitchTrial.NO_GAME);
        check.sentence("Terms, P2: a game has 4 to 8 players, numbered from 0");
        for (int n = 4; n <= 8; n++) {
            WitchTrial t = new WitchTrial();
            int last = n;
            t.start(n, 1, 1, 2);
            check.equal("votesFor(0) of " + n, t.votesFor(0), 0);
            check.equal("votesFor(n - 1) of " + n, t.votesFor(n - 1), 0);
            check.equal("votesFor(n) of " + n, Check.outcome(() -> t.votesFor(last)), Check.INDEX.getName());
            check.equal("votesFor(-1) of " + n, Check.outcome(() -> t.votesFor(-1)), Check.INDEX.getName());
        }
        check.sentence("Terms, P13, P18, P19: a set has bit p for the player p");
        for (int p = 0; p < 8; p++) {
            WitchTrial t = new WitchTrial();
            t.start(8, 1 << p, (p + 1) % 8, (p + 2) % 8);
            check.equal("sureWitches(p), p = " + p, t.sureWitches(p), 1 << p);
            check.equal("sureHonest(p), p = " + p, t.sureHonest(p), 255 - (1 << p));
            Check.lookAt(t, p);
            check.equal("lookedAt(), p = " + p, t.lookedAt(), 1 << p);
            Check.hang(t, p);
            check.equal("alive(), p = " + p, t.alive(), 255 - (1 << p));
        }
    }

    private static void worldsAtFirst() {
        check.sentence("Terms, P2, P23: at the beginning all worlds are possible, and nothing else");
        for (int n = 4; n <= 8; n++) {
            for (int witches = 1; 2 * witches < n; witches++) {
                check.equal("worlds of " + n + " with " + witches, possibleOnes(n, witches), Check.worlds(n, witches));
            }
        }
        check.sentence("Terms, P2: they are all possible again when a game begins in place of another");
        WitchTrial t = Scene.EIGHT.make();
        Check.hang(t, 0);
        check.equal("start()", t.start(8, 7, 3, 4), 1120);
        check.equal("worlds(NONE)", t.worlds(NONE), 1120);
    }

    /** Asks for every deal of the game, right or wrong, with any set of witches and one too many. */
    private static int possibleOnes(int n, int witches) {
        int count = 0;
        for (int set = 0; set < 2 << n; set++) {
            WitchTrial t = new WitchTrial();
            t.start(n, (1 << witches) - 1, witches, n - 1);
            for (int seer = 0; seer < n; seer++) {
                for (int guard = 0; guard < n; guard++) {
                    boolean due = set < 1 << n && Integer.bitCount(set) == witches && seer != guard
                            && ((1 << seer | 1 << guard) & set) == 0;
                    boolean got = t.isPossible(NONE, set, seer, guard);
                    check.equal("isPossible(NONE, " + set + ", " + seer + ", " + guard + ") of " + n, got, due);
                    count += got ? 1 : 0;
                }
            }
        }
        return count;
    }

    // ---- what becomes known

    private static void claims() {
        check.sentence("Terms, P4: with a claim a world agrees if its maker is a witch in it, though the claim is false");
        WitchTrial t = Scene.SIX.make();
        t.claim(0, WitchTrial.IS_SEER, 4);
        check.equal("0 is a witch, 4 a villager", t.isPossible(NONE, 3, 2, 3), true);
        check.equal("0 and 4 are witches", t.isPossible(NONE, 1 | 16, 2, 3), true);
        check.sentence("Terms, P4: with a claim a world agrees if it is true in it, whoever made it");
        check.equal("0 is honest, 4 the seer", t.isPossible(NONE, 2 | 4, 4, 0), true);
        check.equal("0 and 4 are honest, 4 not the seer", t.isPossible(NONE, 2 | 4, 3, 4), false);
        check.equal("0 is honest, 4 a witch", t.isPossible(NONE, 2 | 16, 3, 5), false);
        check.sentence("Terms, P5: so it is with a claim among players");
        WitchTrial u = Scene.SIX.make();
        u.claimAmong(1, 4 | 8);
        check.equal("1 is a witch, 2 and 3 are none", u.isPossible(NONE, 3, 2, 3), true);
        check.equal("1 is honest, 2 a witch", u.isPossible(NONE, 1 | 4, 3, 4), true);
        check.equal("1 is honest, 2 and 3 are witches", u.isPossible(NONE, 4 | 8, 0, 1), true);
        check.equal("1 is honest, 2 and 3 too", u.isPossible(NONE, 1 | 16, 2, 3), false);
        check.sentence("Terms, P4, P16: a claim of one who is dead by now still counts");
        WitchTrial v = Scene.SIX.make();
        v.claim(5, WitchTrial.IS_WITCH, 0);
        Check.hang(v, 5);
        check.equal("sureWitches(NONE)", v.sureWitches(NONE), 1);
        check.equal("worlds(NONE)", v.worlds(NONE), 4 * 3 * 2);
    }

    private static void rolesOfTheDead() {
        check.sentence("Terms, P7, P17: the role of one who is hanged is told to all: witch, seer, guard, villager");
        int[] roles = {WITCH, WITCH, SEER, GUARD, VILLAGER, VILLAGER};
        int[] left = {60, 60, 30, 30, 60, 60};
        for (int p = 0; p < 6; p++) {
            WitchTrial t = Scene.SIX.make();
            Check.hang(t, p);
            check.equal("worlds(NONE) without " + p, t.worlds(NONE), left[p]);
            for (int role = VILLAGER; role <= GUARD; role++) {
                check.equal("worldsWith(NONE, p, " + role + ")", t.worldsWith(NONE, p, role),
                        role == roles[p] ? left[p] : 0);
            }
        }
        check.sentence("Terms, P11, P17: the role of one who is killed is told to all: seer, guard, villager");
        for (int p = 2; p < 6; p++) {
            WitchTrial t = Scene.SIX.make();
            Check.kill(t, p);
            check.equal("worlds(NONE) without " + p, t.worlds(NONE), left[p]);
            check.equal("worldsWith(NONE, p, its role)", t.worldsWith(NONE, p, roles[p]), left[p]);
        }
        check.sentence("Terms, P7, P11: it is told also when the death ends the game");
        check.equal("a villager hanged", Scene.WON_BY_VOTE.make().worldsWith(NONE, 4, VILLAGER), 6 * 2);
        check.equal("worlds(NONE) then", Scene.WON_BY_VOTE.make().worlds(NONE), 6 * 2);
        check.equal("a villager killed", Scene.WON_BY_ATTACK.make().worldsWith(NONE, 4, VILLAGER), 6 * 2);
        check.equal("worlds(NONE) then", Scene.WON_BY_ATTACK.make().worlds(NONE), 6 * 2);
        check.equal("the last witch hanged", Scene.VILLAGE_WON.make().sureWitches(NONE), 3);
    }

    private static void ownRoles() {
        check.sentence("Terms, P16: a viewer has in each of its worlds the role that it has: witch, seer, guard, villager");
        int[] roles = {WITCH, WITCH, SEER, GUARD, VILLAGER, VILLAGER};
        int[] worlds = {12, 12, 30, 30, 60, 60};
        for (int p = 0; p < 6; p++) {
            WitchTrial t = Scene.SIX.make();
            check.equal("worlds(p), p = " + p, t.worlds(p), worlds[p]);
            for (int role = VILLAGER; role <= GUARD; role++) {
                check.equal("worldsWith(p, p, " + role + "), p = " + p, t.worldsWith(p, p, role),
                        role == roles[p] ? worlds[p] : 0);
            }
        }
        check.sentence("Terms, P16: NONE as a viewer is everyone, with nothing but what is known to all");
        WitchTrial t = Scene.SIX.make();
        Check.lookAt(t, 0);
        check.equal("worlds(NONE) after a look", t.worlds(NONE), 180);
        check.equal("sureWitches(NONE)", t.sureWitches(NONE), 0);
        check.equal("sureHonest(NONE)", t.sureHonest(NONE), 0);
    }

    private static void knowledge() {
        check.sentence("Terms, P18: a witch knows all witches, living and dead, while it lives and when it is dead");
        WitchTrial t = new WitchTrial();
        t.start(8, 1 | 16 | 128, 2, 3);
        Check.hang(t, 4);
        for (int p : new int[] {0, 4, 7}) {
            check.equal("sureWitches(" + p + ")", t.sureWitches(p), 1 | 16 | 128);
            check.equal("worlds(" + p + ")", t.worlds(p), 5 * 4);
        }
        check.sentence("Terms, P16: a witch knows also what all know, the roles of the dead");
        WitchTrial dead = Check.eight();
        check.equal("worlds(0) at first", dead.worlds(0), 5 * 4);
        Check.hang(dead, 3);
        check.equal("worlds(0) with the seer dead", dead.worlds(0), 4);
        check.equal("worlds(3), the seer itself", dead.worlds(3), 35 * 4);
        check.sentence("Terms, P17: but not who is the seer or the guard");
        check.equal("worldsWith(0, 2, SEER)", t.worldsWith(0, 2, SEER), 4);
        check.sentence("Terms, P15, P16: the seer knows of whom it looked at whether it is a witch, and no more");
        WitchTrial u = Scene.SIX.make();
        Check.lookAt(u, 3);
        check.equal("sureHonest(2)", u.sureHonest(2), 4 | 8);
        check.equal("worldsWith(2, 3, GUARD)", u.worldsWith(2, 3, GUARD), 6);
        check.equal("worldsWith(2, 3, VILLAGER)", u.worldsWith(2, 3, VILLAGER), 6 * 2);
        check.sentence("Terms, P16: nobody else knows what the seer has seen");
        for (int p : new int[] {NONE, 0, 1, 3, 4, 5}) {
            check.equal("worlds(" + p + ")", u.worlds(p), Scene.SIX.make().worlds(p));
        }
        check.sentence("Terms, P16: a dead seer knows what it has seen");
        Check.hang(u, 2);
        check.equal("worlds(2)", u.worlds(2), 6 * 3);
        check.equal("worlds(NONE)", u.worlds(NONE), 10 * 3);
        check.sentence("Terms, P16: a dead guard and a dead villager know what all know");
        WitchTrial v = Scene.SIX.make();
        Check.kill(v, 3);
        check.equal("worlds(3)", v.worlds(3), v.worlds(NONE));
        WitchTrial w = Scene.SIX.make();
        Check.kill(w, 5);
        check.equal("worlds(5)", w.worlds(5), w.worlds(NONE));
    }

    // ---- days

    private static void votesByDay() {
        check.sentence("Terms, P3, P12: the game begins by day, on the day 1");
        check.equal("phase()", Scene.FOUR.make().phase(), DAY);
        check.equal("day()", Scene.FOUR.make().day(), 1);
        check.equal("phase() of a game in place of another", Scene.SMALLER_GAME.make().phase(), DAY);
        check.equal("day() of a game in place of another", Scene.SMALLER_GAME.make().day(), 1);
        check.sentence("Terms, P6: every living player votes for every living player, or for itself");
        for (int p = 0; p < 8; p++) {
            for (int q = 0; q < 8; q++) {
                WitchTrial t = Check.eight();
                check.equal("vote(" + p + ", " + q + ")", t.vote(p, q), 1);
                check.equal("votesFor(" + q + ")", t.votesFor(q), 1);
            }
        }
        check.sentence("Terms, P6: who votes again changes its vote");
        WitchTrial t = Check.six();
        t.vote(0, 1);
        t.vote(0, 2);
        check.equal("votesFor the first", t.votesFor(1), 0);
        check.equal("votesFor the second", t.votesFor(2), 1);
        check.equal("closeVote()", t.closeVote(), 2);
        check.sentence("Terms, P6: who votes again as before has still one vote");
        WitchTrial u = Check.six();
        u.vote(0, 1);
        check.equal("vote(0, 1) again", u.vote(0, 1), 1);
        u.vote(2, 3);
        check.equal("closeVote(), one against one", u.closeVote(), NONE);
    }

    private static void closings() {
        check.sentence("Terms, P7: the player with the most votes is hanged: with one vote alone, the first, the last");
        closes(new int[] {0}, 0);
        closes(new int[] {7}, 7);
        check.sentence("Terms, P7: with one more than the others, which come before or behind it");
        closes(new int[] {3, 3, 4}, 3);
        closes(new int[] {3, 4, 4}, 4);
        closes(new int[] {1, 5, 5, 2}, 5);
        check.sentence("Terms, P7: with all votes");
        closes(new int[] {6, 6, 6, 6, 6, 6, 6, 6}, 6);
        check.sentence("Terms, P7: a tie below the most saves nobody");
        closes(new int[] {1, 1, 2, 2, 3, 3, 3}, 3);
        closes(new int[] {1, 1, 1, 2, 2, 3, 3}, 1);
        closes(new int[] {1, 1, 2, 2, 2, 3, 3}, 2);
        check.sentence("Terms, P7: if several have the most, nobody is hanged: two, three, the first and the last, all");
        closes(new int[] {4, 5}, NONE);
        closes(new int[] {5, 4, 4, 5, 1}, NONE);
        closes(new int[] {1, 4, 4, 5, 5}, NONE);
        closes(new int[] {2, 4, 6}, NONE);
        closes(new int[] {0, 0, 7, 7}, NONE);
        closes(new int[] {0, 1, 2, 3, 4, 5, 6, 7}, NONE);
        check.sentence("Terms, P7: if there are no votes, nobody is hanged");
        closes(new int[0], NONE);
        check.sentence("Terms, P14: all votes are forgotten: of one hanged, of the others, of a tie");
        votesAreForgotten(new int[] {4, 4, 5}, NIGHT);
        votesAreForgotten(new int[] {4, 5}, NIGHT);
        check.sentence("Terms, P14: they are forgotten also by a vote that ends the game");
        WitchTrial t = new WitchTrial();
        t.start(5, 3, 2, 3);
        t.vote(0, 4);
        t.vote(1, 4);
        t.vote(4, 0);
        t.closeVote();
        check.equal("phase()", t.phase(), WITCHES_WON);
        check.equal("votesFor(4)", t.votesFor(4), 0);
        check.equal("votesFor(0)", t.votesFor(0), 0);
        WitchTrial u = new WitchTrial();
        u.start(4, 1, 1, 2);
        u.vote(1, 0);
        u.vote(2, 0);
        u.vote(3, 1);
        u.closeVote();
        check.equal("phase()", u.phase(), VILLAGE_WON);
        check.equal("votesFor(0)", u.votesFor(0), 0);
        check.equal("votesFor(1)", u.votesFor(1), 0);
    }

    /** The player i votes for votes[i]; the last one is given first, for the order does not matter. */
    private static WitchTrial voted(int[] votes) {
        WitchTrial t = Check.eight();
        for (int i = votes.length - 1; i >= 0; i--) {
            t.vote(i, votes[i]);
        }
        return t;
    }

    private static void closes(int[] votes, int due) {
        WitchTrial t = voted(votes);
        check.equal("closeVote()", t.closeVote(), due);
        check.equal("alive()", t.alive(), due == NONE ? 255 : 255 - (1 << due));
        check.equal("phase()", t.phase(), NIGHT);
    }

    private static void votesAreForgotten(int[] votes, int phase) {
        WitchTrial t = voted(votes);
        t.closeVote();
        check.equal("phase()", t.phase(), phase);
        for (int p = 0; p < 8; p++) {
            check.equal("votesFor(" + p + ") by night", t.votesFor(p), 0);
        }
        t.endNight();
        check.equal("closeVote() the next day", t.closeVote(), NONE);
    }

    // ---- nights

    private static void theGuard() {
        check.sentence("Terms, P8: in the first night the guard can protect every player, itself and witches too");
        for (int p = 0; p < 8; p++) {
            WitchTrial t = Check.eight();
            t.closeVote();
            check.equal("protect(" + p + ")", t.protect(p), NONE);
        }
        check.sentence("Terms, P8: not the one whom it protected in the night before, whoever that is");
        for (int p = 0; p < 8; p++) {
            int again = p;
            WitchTrial t = Check.eight();
            Check.guard(t, p);
            t.closeVote();
            check.equal("protect(" + p + ") again", Check.outcome(() -> t.protect(again)), Check.ARGUMENT.getName());
            check.equal("protect another", t.protect((p + 1) % 8), NONE);
        }
        check.sentence("Terms, P8: the one of two nights before can be protected, if it was another or nobody since");
        WitchTrial t = Check.eight();
        Check.guard(t, 5);
        Check.guard(t, 6);
        t.closeVote();
        check.equal("protect(5), then 6", t.protect(5), NONE);
        WitchTrial u = Check.eight();
        Check.guard(u, 5);
        u.closeVote();
        u.endNight();
        u.closeVote();
        check.equal("protect(5), then nobody", u.protect(5), NONE);
        check.sentence("Terms, P8: whom it only thought of was not protected; only the last choice was");
        WitchTrial v = Check.eight();
        v.closeVote();
        v.protect(5);
        v.protect(6);
        v.endNight();
        v.closeVote();
        check.equal("protect(6)", Check.outcome(() -> v.protect(6)), Check.ARGUMENT.getName());
        check.equal("protect(5)", v.protect(5), NONE);
        check.sentence("Terms, P8: in the same night the guard can come back to its choice");
        WitchTrial w = Check.eight();
        w.closeVote();
        w.protect(5);
        w.protect(6);
        check.equal("protect(5) again", w.protect(5), 6);
        check.equal("protect(5) once more", w.protect(5), 5);
        check.sentence("Terms, P8: the night before is none of the game before");
        WitchTrial x = Check.eight();
        Check.guard(x, 5);
        x.start(8, 7, 3, 4);
        x.closeVote();
        check.equal("protect(5)", x.protect(5), NONE);
        check.sentence("Terms, P8: protecting one whom nobody attacks counts, and so does saving one");
        WitchTrial y = Check.eight();
        y.closeVote();
        y.protect(5);
        y.attack(5);
        y.endNight();
        y.closeVote();
        check.equal("protect(5)", Check.outcome(() -> y.protect(5)), Check.ARGUMENT.getName());
        check.sentence("Terms, P8: the guard can protect while it is alive, not when it is dead");
        check.answers(Scene.SEER_DEAD, "protect(4), itself", 6, t2 -> t2.protect(4));
        check.refuses(Scene.GUARD_DEAD, "protect(5)", Check.STATE, t2 -> t2.protect(5));
    }

    private static void attacks() {
        check.sentence("Terms, P9: the witches can attack every living player who is no witch");
        for (int p = 3; p < 8; p++) {
            WitchTrial t = Check.eight();
            t.closeVote();
            check.equal("attack(" + p + ")", t.attack(p), NONE);
            check.equal("endNight()", t.endNight(), p);
        }
        check.sentence("Terms, P9: not a witch, living or dead, and not a dead one");
        for (int p : new int[] {0, 7, 2, 6}) {
            check.refuses(Scene.SECOND_NIGHT, "attack(" + p + ")", Check.ARGUMENT, t -> t.attack(p));
        }
        WitchTrial t = Check.eight();
        Check.hang(t, 1);
        check.equal("attack a dead witch", Check.outcome(() -> t.attack(1)), Check.ARGUMENT.getName());
        check.sentence("Terms, P9: the witches can attack the same player night after night");
        WitchTrial u = Check.eight();
        u.closeVote();
        u.attack(5);
        u.protect(5);
        u.endNight();
        u.closeVote();
        check.equal("attack(5)", u.attack(5), NONE);
        check.equal("endNight()", u.endNight(), 5);
    }

    private static void looks() {
        check.sentence("Terms, P10: the seer can look at every other living player");
        for (int p = 0; p < 8; p++) {
            if (p != 3) {
                WitchTrial t = Check.eight();
                Check.lookAt(t, p);
                check.equal("lookedAt()", t.lookedAt(), 1 << p);
                check.equal("sureWitches(3)", t.sureWitches(3), p < 3 ? 1 << p : 0);
                check.equal("sureHonest(3)", t.sureHonest(3), p < 3 ? 8 : 8 | 1 << p);
            }
        }
        check.sentence("Terms, P10: not at itself, and not at a dead one");
        check.refuses(Scene.SECOND_NIGHT, "look(3)", Check.ARGUMENT, t -> t.look(3));
        check.refuses(Scene.SECOND_NIGHT, "look(2)", Check.ARGUMENT, t -> t.look(2));
        check.sentence("Terms, P10: it can look again at one at whom it has looked");
        check.answers(Scene.SECOND_NIGHT, "look(0)", 7, t -> t.look(0));
        check.sentence("Terms, P10: the seer can look while it is alive, not when it is dead");
        check.answers(Scene.GUARD_DEAD, "look(5)", 0, t -> t.look(5));
        check.refuses(Scene.SEER_DEAD, "look(5)", Check.STATE, t -> t.look(5));
    }

    private static void changedChoices() {
        check.sentence("Terms, P8, P11: the guard's choice can be changed until the night ends; the last one counts");
        WitchTrial t = Check.eight();
        t.closeVote();
        t.protect(5);
        t.attack(5);
        t.protect(6);
        check.equal("endNight()", t.endNight(), 5);
        WitchTrial u = Check.eight();
        u.closeVote();
        u.protect(6);
        u.attack(5);
        u.protect(5);
        check.equal("endNight()", u.endNight(), NONE);
        check.sentence("Terms, P9, P11: the witches' choice can be changed until the night ends; the last one counts");
        WitchTrial v = Check.eight();
        v.closeVote();
        v.attack(5);
        v.attack(6);
        check.equal("endNight()", v.endNight(), 6);
        check.equal("alive()", v.alive(), 255 - 64);
        check.sentence("Terms, P10, P15: the seer's choice can be changed until the night ends; the last one counts");
        WitchTrial w = Check.eight();
        w.closeVote();
        w.look(0);
        w.look(5);
        w.endNight();
        check.equal("lookedAt()", w.lookedAt(), 32);
        check.equal("sureWitches(3)", w.sureWitches(3), 0);
    }

    private static void orderOfTheNight() {
        check.sentence("Terms, P11: the guard protects first, though it has chosen last");
        WitchTrial t = Check.eight();
        t.closeVote();
        t.attack(6);
        t.protect(6);
        check.equal("endNight()", t.endNight(), NONE);
        check.equal("alive()", t.alive(), 255);
        check.sentence("Terms, P11: the guard can protect itself, and lives");
        check.equal("endNight()", nightOf(4, 4, NONE).endNight(), NONE);
        check.sentence("Terms, P11: the guard who protects another dies when it is attacked");
        check.equal("endNight()", nightOf(4, 5, NONE).endNight(), 4);
        check.sentence("Terms, P11, P15: a seer who is attacked and dies does not look");
        WitchTrial u = nightOf(3, NONE, 0);
        check.equal("endNight()", u.endNight(), 3);
        check.equal("lookedAt()", u.lookedAt(), 0);
        check.equal("sureWitches(3)", u.sureWitches(3), 0);
        check.equal("phase()", u.phase(), DAY);
        check.sentence("Terms, P11, P15: a seer who is attacked and protected looks");
        WitchTrial v = nightOf(3, 3, 0);
        check.equal("endNight()", v.endNight(), NONE);
        check.equal("lookedAt()", v.lookedAt(), 1);
        check.sentence("Terms, P11, P15: the seer looks also at one who has just died, and learns what it is");
        WitchTrial w = nightOf(5, NONE, 5);
        check.equal("endNight()", w.endNight(), 5);
        check.equal("lookedAt()", w.lookedAt(), 32);
        check.sentence("Terms, P11: nobody is attacked, nobody protected, nobody looked at");
        WitchTrial x = nightOf(NONE, NONE, NONE);
        check.equal("endNight()", x.endNight(), NONE);
        check.equal("alive()", x.alive(), 255);
        check.equal("lookedAt()", x.lookedAt(), 0);
        check.equal("day()", x.day(), 2);
        check.equal("phase()", x.phase(), DAY);
    }

    /** Eight by night, where each choice is made that is not NONE. */
    private static WitchTrial nightOf(int attacked, int guarded, int lookedAt) {
        WitchTrial t = Check.eight();
        t.closeVote();
        if (lookedAt != NONE) {
            t.look(lookedAt);
        }
        if (attacked != NONE) {
            t.attack(attacked);
        }
        if (guarded != NONE) {
            t.protect(guarded);
        }
        return t;
    }

    private static void forgottenChoices() {
        check.sentence("Terms, P8 to P11: all choices are forgotten when the night is over");
        WitchTrial t = nightOf(5, 5, 0);
        t.endNight();
        t.closeVote();
        check.equal("endNight(): nobody is attacked", t.endNight(), NONE);
        check.equal("lookedAt(): nobody more", t.lookedAt(), 1);
        WitchTrial u = nightOf(5, 6, 0);
        u.endNight();
        u.closeVote();
        check.equal("attack(6)", u.attack(6), NONE);
        check.equal("look(1)", u.look(1), NONE);
        check.equal("endNight(): nobody is protected", u.endNight(), 6);
        WitchTrial v = nightOf(5, 5, 0);
        v.endNight();
        v.closeVote();
        check.equal("protect(6)", v.protect(6), NONE);
    }

    // ---- the end of the game

    private static void villageWins() {
        check.sentence("Terms, P3, P7: the village has won as soon as no witch is alive");
        for (int n = 4; n <= 8; n++) {
            WitchTrial t = new WitchTrial();
            t.start(n, 1 << n - 1, 0, 1);
            Check.hang(t, n - 1);
            check.equal("phase() of " + n, t.phase(), VILLAGE_WON);
        }
        check.sentence("Terms, P3, P7: it has not as long as one of several is");
        WitchTrial t = Check.eight();
        Check.hang(t, 0);
        check.equal("phase() with two left", t.phase(), NIGHT);
        t.endNight();
        Check.hang(t, 1);
        check.equal("phase() with one left", t.phase(), NIGHT);
        t.endNight();
        Check.hang(t, 2);
        check.equal("phase() with none left", t.phase(), VILLAGE_WON);
        check.sentence("Terms, P3, P7: the village wins with two others left alone");
        WitchTrial u = new WitchTrial();
        u.start(4, 1, 1, 2);
        Check.kill(u, 3);
        Check.hang(u, 0);
        check.equal("phase()", u.phase(), VILLAGE_WON);
        check.equal("alive()", u.alive(), 2 | 4);
        check.sentence("Terms, P12: if it is over by a vote, there is no night, and the day is the same");
        check.equal("day()", u.day(), 2);
        check.equal("day()", Scene.VILLAGE_WON.make().day(), 2);
        check.equal("day()", Scene.WON_BY_VOTE.make().day(), 1);
    }

    private static void witchesWin() {
        check.sentence("Terms, P3, P7: the witches have won by a vote as soon as they are as many: 1, 2, 3");
        wonByVote(4, 1, 2);
        wonByVote(5, 2, 1);
        wonByVote(6, 2, 2);
        wonByVote(7, 3, 1);
        wonByVote(8, 3, 2);
        check.sentence("Terms, P3, P11: the witches have won by an attack as soon as they are as many: 1, 2, 3");
        wonByAttack(4, 1, 2);
        wonByAttack(5, 2, 1);
        wonByAttack(6, 2, 2);
        wonByAttack(7, 3, 1);
        wonByAttack(8, 3, 2);
        check.sentence("Terms, P7: a witch hanged makes them fewer, so the game goes on");
        WitchTrial t = new WitchTrial();
        t.start(5, 3, 2, 3);
        Check.hang(t, 0);
        check.equal("phase() with 1 against 3", t.phase(), NIGHT);
        t.attack(4);
        t.endNight();
        check.equal("phase() with 1 against 2", t.phase(), DAY);
        Check.hang(t, 2);
        check.equal("phase() with 1 against 1", t.phase(), WITCHES_WON);
        check.sentence("Terms, P11, P12, P15: if it is over by an attack, the seer does not look, and the day is the same");
        WitchTrial u = new WitchTrial();
        u.start(5, 3, 2, 3);
        u.closeVote();
        u.endNight();
        u.closeVote();
        u.look(0);
        u.attack(4);
        check.equal("endNight()", u.endNight(), 4);
        check.equal("phase()", u.phase(), WITCHES_WON);
        check.equal("lookedAt()", u.lookedAt(), 0);
        check.equal("sureWitches(2)", u.sureWitches(2), 0);
        check.equal("day()", u.day(), 2);
        check.sentence("Terms, P11: an attack from which the guard saves does not end the game");
        WitchTrial v = new WitchTrial();
        v.start(5, 3, 2, 3);
        v.closeVote();
        v.look(0);
        v.attack(4);
        v.protect(4);
        check.equal("endNight()", v.endNight(), NONE);
        check.equal("phase()", v.phase(), DAY);
        check.equal("lookedAt()", v.lookedAt(), 1);
        check.equal("day()", v.day(), 2);
    }

    /** The witches are the lowest players; the highest die, until as many are left: at the last one it is over. */
    private static void wonByVote(int n, int witches, int deaths) {
        WitchTrial t = new WitchTrial();
        t.start(n, (1 << witches) - 1, witches, witches + 1);
        for (int death = 1; death <= deaths; death++) {
            Check.hang(t, n - death);
            check.equal("phase() of " + n + " after " + death, t.phase(), death == deaths ? WITCHES_WON : NIGHT);
            if (death < deaths) {
                t.endNight();
            }
        }
    }

    private static void wonByAttack(int n, int witches, int deaths) {
        WitchTrial t = new WitchTrial();
        t.start(n, (1 << witches) - 1, witches, witches + 1);
        for (int death = 1; death <= deaths; death++) {
            Check.kill(t, n - death);
            check.equal("phase() of " + n + " after " + death, t.phase(), death == deaths ? WITCHES_WON : DAY);
        }
    }
}
