/** The sentences of the promises 1 to 15 that name a boundary case: the game, and what is to be seen of it. */
public final class GameEdgeTest {
    private static final Check check = new Check("GameEdgeTest");
    private static final int NONE = WitchTrial.NONE;
    private static final int IS_WITCH = WitchTrial.IS_WITCH, IS_HONEST = WitchTrial.IS_HONEST;
    private static final int IS_SEER = WitchTrial.IS_SEER, IS_GUARD = WitchTrial.IS_GUARD;
    private static final int MIN = Integer.MIN_VALUE, MAX = Integer.MAX_VALUE;

    /** What is no player of any game, below 0 or too large. */
    private static final int[] NOBODY = {MIN, MIN + 1, -32, -2, -1, 8, 9, 31, 32, 33, 64, 256, MAX - 1, MAX};

    public static void main(String[] args) {
        newObject();
        startPlayers();
        startWitches();
        startSeerAndGuard();
        startInPlaceOfAGame();
        phases();
        claimsTrueAndFalse();
        claimArguments();
        claimRefusals();
        claimAmongSets();
        claimAmongRefusals();
        votes();
        voteRefusals();
        closeVotes();
        protects();
        attacks();
        looks();
        endsOfNights();
        days();
        alive();
        votesFor();
        lookedAt();
        check.finish();
    }

    // ---- promises 1 to 3

    private static void newObject() {
        Scene none = Scene.NO_GAME;
        check.sentence("P1: a new object has no game");
        check.answers(none, "phase()", WitchTrial.NO_GAME, t -> t.phase());
        check.sentence("P1, P4 to P15: each call but start and phase throws IllegalStateException if there is no game");
        check.refuses(none, "claim", Check.STATE, t -> t.claim(0, IS_HONEST, 0));
        check.refuses(none, "claimAmong", Check.STATE, t -> t.claimAmong(0, 1));
        check.refuses(none, "vote", Check.STATE, t -> t.vote(0, 0));
        check.refuses(none, "closeVote", Check.STATE, t -> t.closeVote());
        check.refuses(none, "protect", Check.STATE, t -> t.protect(0));
        check.refuses(none, "attack", Check.STATE, t -> t.attack(0));
        check.refuses(none, "look", Check.STATE, t -> t.look(0));
        check.refuses(none, "endNight", Check.STATE, t -> t.endNight());
        check.refuses(none, "day", Check.STATE, t -> t.day());
        check.refuses(none, "alive", Check.STATE, t -> t.alive());
        check.refuses(none, "votesFor", Check.STATE, t -> t.votesFor(0));
        check.refuses(none, "lookedAt", Check.STATE, t -> t.lookedAt());
        check.sentence("P1, P4 to P14: so it does with arguments for which there are other exceptions too");
        for (int p : new int[] {MIN, -1, 8, MAX}) {
            check.refuses(none, "claim", Check.STATE, t -> t.claim(p, 4, p));
            check.refuses(none, "claimAmong", Check.STATE, t -> t.claimAmong(p, -1));
            check.refuses(none, "vote", Check.STATE, t -> t.vote(p, p));
            check.refuses(none, "protect", Check.STATE, t -> t.protect(p));
            check.refuses(none, "attack", Check.STATE, t -> t.attack(p));
            check.refuses(none, "look", Check.STATE, t -> t.look(p));
            check.refuses(none, "votesFor", Check.STATE, t -> t.votesFor(p));
        }
        check.sentence("P1: a refused start leaves no game; a game of one object is none of another");
        check.refuses(none, "start(3, 1, 1, 2)", Check.ARGUMENT, t -> t.start(3, 1, 1, 2));
        Scene.EIGHT.make();
        check.answers(none, "phase()", WitchTrial.NO_GAME, t -> t.phase());
    }

    private static void starts(int players, int witches, int seer, int guard) {
        for (Scene scene : new Scene[] {Scene.NO_GAME, Scene.EIGHT}) {
            check.answers(scene, "start(" + players + ", " + witches + ", " + seer + ", " + guard + ")",
                    Check.worlds(players, Integer.bitCount(witches)), t -> t.start(players, witches, seer, guard));
        }
    }

    private static void startsNot(int players, int witches, int seer, int guard) {
        for (Scene scene : new Scene[] {Scene.NO_GAME, Scene.EIGHT, Scene.SECOND_NIGHT, Scene.VILLAGE_WON}) {
            check.refuses(scene, "start(" + players + ", " + witches + ", " + seer + ", " + guard + ")",
                    Check.ARGUMENT, t -> t.start(players, witches, seer, guard));
        }
    }

    private static void startPlayers() {
        check.sentence("P2: 4 and 8 players are right");
        starts(4, 1, 1, 2);
        starts(8, 1, 1, 2);
        check.sentence("P2: 3 players are too few");
        startsNot(3, 1, 1, 2);
        check.sentence("P2: 9 players are too many");
        startsNot(9, 1, 1, 2);
        check.sentence("P2: 0 players, fewer, and the smallest and the largest int");
        for (int n : new int[] {MIN, MIN + 1, MIN + 4, -4, -1, 0, 1, 2, 10, 31, 32, 36, 64, MAX - 1, MAX}) {
            startsNot(n, 1, 1, 2);
        }
    }

    private static void startWitches() {
        check.sentence("P2: one witch at least: one is right, for every player");
        for (int p = 0; p < 8; p++) {
            starts(8, 1 << p, (p + 1) % 8, (p + 2) % 8);
        }
        check.sentence("P2: one witch at least: none is refused");
        for (int n = 4; n <= 8; n++) {
            startsNot(n, 0, 1, 2);
        }
        check.sentence("P2: fewer witches than half: 1 of 4, 2 of 5, 2 of 6, 3 of 7 and 3 of 8 are right");
        starts(4, 8, 0, 1);
        starts(5, 24, 0, 1);
        starts(6, 48, 0, 1);
        starts(7, 112, 0, 1);
        starts(8, 224, 0, 1);
        check.sentence("P2: fewer witches than half: 2 of 4, 3 of 5, 3 of 6, 4 of 7 and 4 of 8 are refused");
        startsNot(4, 12, 0, 1);
        startsNot(5, 28, 0, 1);
        startsNot(6, 56, 0, 1);
        startsNot(7, 120, 0, 1);
        startsNot(8, 240, 0, 1);
        check.sentence("P2: all are witches");
        startsNot(4, 15, 0, 1);
        startsNot(8, 255, 0, 1);
        check.sentence("P2: a witch who does not exist, alone or with one who does");
        for (int n = 4; n <= 8; n++) {
            startsNot(n, 1 << n, 0, 1);
            startsNot(n, 1 << n | 8, 0, 1);
        }
        check.sentence("P2: the smallest and the largest int, -1 and far bits as the set of witches");
        for (int set : new int[] {MIN, MIN + 1, -256, -2, -1, 1 << 16, 1 << 24 | 1, 1 << 30, MAX - 1, MAX}) {
            startsNot(8, set, 4, 5);
        }
    }

    private static void startSeerAndGuard() {
        check.sentence("P2: the seer and the guard can be the first and the last player");
        for (int n = 4; n <= 8; n++) {
            starts(n, 2, 0, n - 1);
            starts(n, 2, n - 1, 0);
        }
        check.sentence("P2: the seer and the guard must exist");
        for (int n = 4; n <= 8; n++) {
            startsNot(n, 1, n, 2);
            startsNot(n, 1, 2, n);
        }
        for (int p : NOBODY) {
            startsNot(8, 1, p, 2);
            startsNot(8, 1, 2, p);
            startsNot(8, 1, p, p);
        }
        check.sentence("P2: the seer is no witch");
        for (int p = 0; p < 3; p++) {
            startsNot(8, 7, p, 3);
        }
        check.sentence("P2: the guard is no witch");
        for (int p = 0; p < 3; p++) {
            startsNot(8, 7, 3, p);
        }
        check.sentence("P2: the guard is not the seer");
        for (int p = 3; p < 8; p++) {
            startsNot(8, 7, p, p);
        }
    }

    private static void startInPlaceOfAGame() {
        check.sentence("P2: a game begun while another goes on or is over is as one begun on a new object");
        for (Scene scene : Scene.ALL) {
            for (Scene begun : new Scene[] {Scene.FOUR, Scene.SIX}) {
                WitchTrial seen = scene.make();
                int due = begun == Scene.FOUR ? 24 : 180;
                check.equal("start, " + scene.name, begin(seen, begun), due);
                check.equal("what is seen, " + scene.name, Check.seen(seen), begun.view());
                WitchTrial left = scene.make();
                begin(left, begun);
                check.equal("what comes, " + scene.name, Check.farewell(left), begun.farewell());
            }
        }
        check.sentence("P2: players of the larger game before do not exist in the smaller one");
        check.refuses(Scene.SMALLER_GAME, "vote(7, 0)", Check.INDEX, t -> t.vote(7, 0));
        check.refuses(Scene.SMALLER_GAME, "votesFor(5)", Check.INDEX, t -> t.votesFor(5));
        check.answers(Scene.SMALLER_GAME, "alive()", 31, t -> t.alive());
        check.answers(Scene.SMALLER_GAME, "lookedAt()", 0, t -> t.lookedAt());
    }

    private static int begin(WitchTrial trial, Scene scene) {
        return trial.start(scene.players, scene.witches, scene.seer, scene.guard);
    }

    private static void phases() {
        check.sentence("P3: phase() without a game, by day, by night, and when either side has won");
        for (Scene scene : Scene.ALL) {
            check.answers(scene, "phase()", scene.phase, t -> t.phase());
        }
    }

    // ---- promises 4 and 5

    private static void claimsTrueAndFalse() {
        check.sentence("P4: a true claim of an honest player, each kind: seer, guard and villager make it");
        for (int p = 2; p < 5; p++) {
            int player = p;
            check.answers(Scene.SIX, "IS_WITCH of " + p, 60 + 48, t -> t.claim(player, IS_WITCH, 1));
            check.answers(Scene.SIX, "IS_HONEST of " + p, 60 + 72, t -> t.claim(player, IS_HONEST, 5));
        }
        check.answers(Scene.SIX, "IS_SEER of the guard", 60 + 18, t -> t.claim(3, IS_SEER, 2));
        check.answers(Scene.SIX, "IS_SEER of a villager", 60 + 18, t -> t.claim(4, IS_SEER, 2));
        check.answers(Scene.SIX, "IS_GUARD of the seer", 60 + 18, t -> t.claim(2, IS_GUARD, 3));
        check.answers(Scene.SIX, "IS_GUARD of a villager", 60 + 18, t -> t.claim(5, IS_GUARD, 3));
        check.sentence("P4: a claim of an honest player that is not true throws NoSuchElementException, each kind");
        for (int p = 2; p < 6; p++) {
            int player = p;
            for (int o = 0; o < 6; o++) {
                int other = o;
                int isNot = o < 2 ? IS_HONEST : IS_WITCH;
                check.refuses(Scene.SIX, "is a witch or not", Check.ELEMENT, t -> t.claim(player, isNot, other));
                if (o != 2) {
                    check.refuses(Scene.SIX, "IS_SEER", Check.ELEMENT, t -> t.claim(player, IS_SEER, other));
                }
                if (o != 3) {
                    check.refuses(Scene.SIX, "IS_GUARD", Check.ELEMENT, t -> t.claim(player, IS_GUARD, other));
                }
            }
        }
        check.sentence("P4: a witch claims what is true and what is not, each kind, about each player");
        int[] left = {60 + 48, 60 + 72, 60 + 18, 60 + 18};
        int[] leftOfItself = {60, 180, 60 + 30, 60 + 30};
        for (int kind = IS_WITCH; kind <= IS_GUARD; kind++) {
            for (int o = 0; o < 6; o++) {
                int its = kind;
                int other = o;
                check.answers(Scene.SIX, "kind " + kind + " of " + o, o == 0 ? leftOfItself[kind] : left[kind],
                        t -> t.claim(0, its, other));
            }
        }
    }

    private static void claimArguments() {
        check.sentence("P4: a player can claim something about itself");
        check.answers(Scene.SIX, "the seer: I am the seer", 60 + 30, t -> t.claim(2, IS_SEER, 2));
        check.answers(Scene.SIX, "the guard: I am the guard", 60 + 30, t -> t.claim(3, IS_GUARD, 3));
        check.answers(Scene.SIX, "a villager: I am honest", 180, t -> t.claim(4, IS_HONEST, 4));
        check.answers(Scene.SIX, "a witch: I am a witch", 60, t -> t.claim(1, IS_WITCH, 1));
        check.answers(Scene.SIX, "a witch: I am honest", 180, t -> t.claim(1, IS_HONEST, 1));
        check.sentence("P4: a claim about a dead player: it rules out nothing if all know it, and is refused if false");
        check.answers(Scene.SECOND_DAY, "6 is honest", true, t -> t.worlds(NONE) == t.claim(5, IS_HONEST, 6));
        check.refuses(Scene.SECOND_DAY, "6 is a witch", Check.ELEMENT, t -> t.claim(5, IS_WITCH, 6));
        check.refuses(Scene.SECOND_DAY, "6 is the guard", Check.ELEMENT, t -> t.claim(5, IS_GUARD, 6));
        check.sentence("P4: a false claim of a witch about a dead player leaves the worlds in which it is a witch");
        check.answers(Scene.SECOND_DAY, "0: 6 is a witch", 4 * 4 * 3, t -> t.claim(0, IS_WITCH, 6));
        check.sentence("P4: the first and the last player claim, and are claimed about");
        check.answers(Scene.EIGHT, "claim(7, IS_HONEST, 7)", true, t -> t.worlds(NONE) == t.claim(7, IS_HONEST, 7));
        check.answers(Scene.EIGHT, "claim(0, IS_HONEST, 0)", true, t -> t.worlds(NONE) == t.claim(0, IS_HONEST, 0));
        check.sentence("P4: the same claim again rules out nothing more");
        check.answers(Scene.SIX, "claim again", true, t -> t.claim(5, IS_WITCH, 0) == t.claim(5, IS_WITCH, 0));
        check.sentence("P4: a claim returns how many worlds are possible for everyone then");
        check.answers(Scene.SECOND_DAY, "claim", true, t -> t.claim(4, IS_WITCH, 7) == t.worlds(NONE));
    }

    private static void claimRefusals() {
        check.sentence("P4: no such player, and no such other: below 0 or too large");
        for (int p : NOBODY) {
            check.refuses(Scene.EIGHT, "claim(" + p + ", ..)", Check.INDEX, t -> t.claim(p, IS_HONEST, 5));
            check.refuses(Scene.EIGHT, "claim(.., " + p + ")", Check.INDEX, t -> t.claim(5, IS_HONEST, p));
            check.refuses(Scene.EIGHT, "claim of a witch", Check.INDEX, t -> t.claim(0, IS_HONEST, p));
        }
        check.refuses(Scene.SIX, "claim(6, ..)", Check.INDEX, t -> t.claim(6, IS_HONEST, 5));
        check.refuses(Scene.SIX, "claim(.., 6)", Check.INDEX, t -> t.claim(5, IS_HONEST, 6));
        check.sentence("P4: no such kind: -1, 4, and the ends of int");
        for (int kind : new int[] {MIN, -1, 4, 5, 32, MAX}) {
            check.refuses(Scene.SIX, "kind " + kind, Check.ARGUMENT, t -> t.claim(5, kind, 0));
            check.refuses(Scene.SIX, "kind " + kind + " of a witch", Check.ARGUMENT, t -> t.claim(0, kind, 0));
        }
        check.sentence("P4: it is not day: by night, and when the game is over, though the claim is true");
        check.refuses(Scene.FIRST_NIGHT, "claim", Check.ELEMENT, t -> t.claim(5, IS_WITCH, 0));
        check.refuses(Scene.FIRST_NIGHT, "claim of a witch", Check.ELEMENT, t -> t.claim(0, IS_WITCH, 0));
        for (Scene scene : Scene.OVER) {
            check.refuses(scene, "claim", Check.ELEMENT, t -> t.claim(2, IS_WITCH, 0));
        }
        check.sentence("P4: the player is dead, honest or a witch, though the claim is true");
        check.refuses(Scene.SECOND_DAY, "claim of 6", Check.ELEMENT, t -> t.claim(6, IS_WITCH, 0));
        check.refuses(Scene.SECOND_DAY, "claim of 2", Check.ELEMENT, t -> t.claim(2, IS_HONEST, 2));
        check.refuses(Scene.WITCH_DEAD, "claim(0, IS_WITCH, 0)", Check.ELEMENT, t -> t.claim(0, IS_WITCH, 0));
        check.sentence("P4: of several exceptions the one that is listed first");
        check.refuses(Scene.SIX, "no player, no kind", Check.INDEX, t -> t.claim(6, 4, 0));
        check.refuses(Scene.SIX, "no other, no kind", Check.INDEX, t -> t.claim(5, 4, -1));
        check.refuses(Scene.FIRST_NIGHT, "no player, not day", Check.INDEX, t -> t.claim(-1, IS_WITCH, 0));
        check.refuses(Scene.FIRST_NIGHT, "no other, not day", Check.INDEX, t -> t.claim(0, IS_WITCH, 6));
        check.refuses(Scene.FIRST_NIGHT, "no kind, not day", Check.ARGUMENT, t -> t.claim(0, -1, 0));
        check.refuses(Scene.SECOND_DAY, "no other, dead", Check.INDEX, t -> t.claim(6, IS_WITCH, 8));
        check.refuses(Scene.SECOND_DAY, "no kind, dead", Check.ARGUMENT, t -> t.claim(6, 4, 0));
        check.refuses(Scene.VILLAGE_WON, "no player, no kind, not day", Check.INDEX, t -> t.claim(6, 4, 0));
    }

    private static void claimAmongSets() {
        check.sentence("P5: the empty set, claimed by a witch: only it can be lying");
        check.answers(Scene.SIX, "claimAmong(0, 0)", 60, t -> t.claimAmong(0, 0));
        check.sentence("P5: the empty set, claimed by an honest player, is not true");
        for (int p = 2; p < 6; p++) {
            int player = p;
            check.refuses(Scene.SIX, "claimAmong(p, 0)", Check.ELEMENT, t -> t.claimAmong(player, 0));
        }
        check.sentence("P5: the set of all players is true in every world");
        for (int p = 0; p < 6; p++) {
            int player = p;
            check.answers(Scene.SIX, "claimAmong(p, 63)", 180, t -> t.claimAmong(player, 63));
        }
        check.sentence("P5: the player itself alone, or among others");
        check.answers(Scene.SIX, "a witch alone", 60, t -> t.claimAmong(0, 1));
        check.answers(Scene.SIX, "a villager and a witch", 60 + 48, t -> t.claimAmong(5, 32 | 1));
        check.refuses(Scene.SIX, "a villager alone", Check.ELEMENT, t -> t.claimAmong(5, 32));
        check.sentence("P5: one witch among several honest ones is enough; no witch among all the honest is not");
        check.answers(Scene.SIX, "all but 0", 180, t -> t.claimAmong(5, 62));
        check.answers(Scene.SIX, "all but 0 and 5", 60 + 120, t -> t.claimAmong(5, 30));
        check.refuses(Scene.SIX, "all the honest", Check.ELEMENT, t -> t.claimAmong(5, 60));
        check.sentence("P5: a set with dead players: a dead witch counts, a dead honest one does not");
        check.answers(Scene.WITCH_DEAD, "a dead witch", 60, t -> t.claimAmong(5, 1));
        check.refuses(Scene.SECOND_DAY, "the dead honest", Check.ELEMENT, t -> t.claimAmong(5, 64 | 4));
        check.answers(Scene.SECOND_DAY, "0 and the dead", true, t -> t.claimAmong(5, 64 | 4 | 1) == t.claimAmong(5, 1));
        check.sentence("P5: a witch claims what is not true");
        check.answers(Scene.SIX, "5", 60 + 48, t -> t.claimAmong(0, 32));
        check.answers(Scene.SECOND_DAY, "the dead honest", 4 * 4 * 3, t -> t.claimAmong(0, 64 | 4));
        check.sentence("P5: the highest player, and how many worlds are possible for everyone then");
        check.answers(Scene.SECOND_DAY, "7", true, t -> t.claimAmong(5, 128) == t.worlds(NONE));
    }

    private static void claimAmongRefusals() {
        check.sentence("P5: no such player: below 0 or too large");
        for (int p : NOBODY) {
            check.refuses(Scene.EIGHT, "claimAmong(" + p + ", 1)", Check.INDEX, t -> t.claimAmong(p, 1));
        }
        check.refuses(Scene.SIX, "claimAmong(6, 1)", Check.INDEX, t -> t.claimAmong(6, 1));
        check.sentence("P5: a set with a player who does not exist: the next one, with others, and the ends of int");
        for (int set : new int[] {64, 65, 127, 128, 256, 1 << 16, 1 << 30, MAX, MIN, MIN + 1, -64, -1}) {
            check.refuses(Scene.SIX, "set " + set, Check.ARGUMENT, t -> t.claimAmong(5, set));
            check.refuses(Scene.SIX, "set " + set + " of a witch", Check.ARGUMENT, t -> t.claimAmong(0, set));
        }
        for (int set : new int[] {256, 257, 511, 1 << 9, MAX, MIN, -256, -1}) {
            check.refuses(Scene.EIGHT, "set " + set + " of eight", Check.ARGUMENT, t -> t.claimAmong(0, set));
        }
        check.sentence("P5: it is not day: by night, and when the game is over");
        check.refuses(Scene.FIRST_NIGHT, "claimAmong", Check.ELEMENT, t -> t.claimAmong(5, 1));
        check.refuses(Scene.FIRST_NIGHT, "claimAmong of a witch", Check.ELEMENT, t -> t.claimAmong(0, 1));
        for (Scene scene : Scene.OVER) {
            check.refuses(scene, "claimAmong", Check.ELEMENT, t -> t.claimAmong(2, 1));
        }
        check.sentence("P5: the player is dead");
        check.refuses(Scene.SECOND_DAY, "claimAmong of 6", Check.ELEMENT, t -> t.claimAmong(6, 1));
        check.refuses(Scene.SECOND_DAY, "claimAmong of 2", Check.ELEMENT, t -> t.claimAmong(2, 255));
        check.refuses(Scene.WITCH_DEAD, "claimAmong of a witch", Check.ELEMENT, t -> t.claimAmong(0, 1));
        check.sentence("P5: of several exceptions the one that is listed first");
        check.refuses(Scene.SIX, "no player, no set", Check.INDEX, t -> t.claimAmong(-1, 64));
        check.refuses(Scene.FIRST_NIGHT, "no player, not day", Check.INDEX, t -> t.claimAmong(6, 1));
        check.refuses(Scene.FIRST_NIGHT, "no set, not day", Check.ARGUMENT, t -> t.claimAmong(5, -1));
        check.refuses(Scene.SECOND_DAY, "no set, dead", Check.ARGUMENT, t -> t.claimAmong(6, 256));
        check.refuses(Scene.WON_BY_VOTE, "no player, no set, not day", Check.INDEX, t -> t.claimAmong(5, 32));
    }

    // ---- promises 6 and 7

    private static void votes() {
        check.sentence("P6: returns how many votes the other one has then: none before, all eight at last");
        WitchTrial t = Check.eight();
        for (int p = 0; p < 8; p++) {
            check.equal("vote(" + p + ", 7)", t.vote(p, 7), p + 1);
        }
        check.equal("vote(7, 7) again", t.vote(7, 7), 8);
        check.sentence("P6: a changed vote is taken from the one who had it");
        check.equal("vote(3, 0)", t.vote(3, 0), 1);
        check.equal("votesFor(7)", t.votesFor(7), 7);
        check.sentence("P6: a vote for itself, of the first and of the last player");
        check.answers(Scene.SIX, "vote(0, 0)", 1, u -> u.vote(0, 0));
        check.answers(Scene.SIX, "vote(5, 5)", 1, u -> u.vote(5, 5));
    }

    private static void voteRefusals() {
        check.sentence("P6: it is not day: by night, and when the game is over");
        check.refuses(Scene.FIRST_NIGHT, "vote", Check.STATE, t -> t.vote(0, 1));
        check.refuses(Scene.SECOND_NIGHT, "vote", Check.STATE, t -> t.vote(0, 1));
        for (Scene scene : Scene.OVER) {
            check.refuses(scene, "vote", Check.STATE, t -> t.vote(2, 3));
        }
        check.sentence("P6: no such player, and no such other: below 0 or too large");
        for (int p : NOBODY) {
            check.refuses(Scene.EIGHT, "vote(" + p + ", 0)", Check.INDEX, t -> t.vote(p, 0));
            check.refuses(Scene.EIGHT, "vote(0, " + p + ")", Check.INDEX, t -> t.vote(0, p));
        }
        check.refuses(Scene.SIX, "vote(6, 0)", Check.INDEX, t -> t.vote(6, 0));
        check.refuses(Scene.SIX, "vote(0, 6)", Check.INDEX, t -> t.vote(0, 6));
        check.sentence("P6: the player is dead, the other one is dead, both are");
        check.refuses(Scene.SECOND_DAY, "vote(6, 0)", Check.ARGUMENT, t -> t.vote(6, 0));
        check.refuses(Scene.SECOND_DAY, "vote(0, 6)", Check.ARGUMENT, t -> t.vote(0, 6));
        check.refuses(Scene.SECOND_DAY, "vote(2, 6)", Check.ARGUMENT, t -> t.vote(2, 6));
        check.refuses(Scene.SECOND_DAY, "vote(2, 2)", Check.ARGUMENT, t -> t.vote(2, 2));
        check.sentence("P6: a vote that is refused leaves the vote before it");
        check.answers(Scene.SECOND_DAY, "closeVote()", 0, t -> {
            Check.outcome(() -> t.vote(1, 6));
            Check.outcome(() -> t.vote(3, 8));
            return t.closeVote();
        });
        check.sentence("P6: of several exceptions the one that is listed first");
        check.refuses(Scene.FIRST_NIGHT, "not day, no player", Check.STATE, t -> t.vote(-1, 0));
        check.refuses(Scene.FIRST_NIGHT, "not day, no other", Check.STATE, t -> t.vote(0, 6));
        check.refuses(Scene.SECOND_NIGHT, "not day, dead", Check.STATE, t -> t.vote(6, 0));
        check.refuses(Scene.VILLAGE_WON, "over, dead, no other", Check.STATE, t -> t.vote(0, 6));
        check.refuses(Scene.SECOND_DAY, "no player, the other dead", Check.INDEX, t -> t.vote(8, 6));
        check.refuses(Scene.SECOND_DAY, "no other, the player dead", Check.INDEX, t -> t.vote(6, -1));
    }

    private static void closeVotes() {
        check.sentence("P7: returns the player who is hanged, 0 too; NONE if nobody is");
        check.answers(Scene.SECOND_DAY, "closeVote() with two for 0, one for 4", 0, t -> t.closeVote());
        check.answers(Scene.EIGHT, "closeVote() with two for 5, one for 0, one for 7", 5, t -> t.closeVote());
        check.answers(Scene.SIX, "closeVote() without votes", NONE, t -> t.closeVote());
        check.sentence("P7: the votes of the day before do not count");
        check.answers(Scene.EIGHT, "closeVote() the next day", NONE, t -> {
            t.vote(5, 7);
            t.vote(2, 7);
            t.vote(7, 5);
            t.vote(3, 5);
            t.closeVote();
            t.endNight();
            return t.closeVote();
        });
        check.sentence("P7: it is not day: by night, and when the game is over");
        check.refuses(Scene.FIRST_NIGHT, "closeVote()", Check.STATE, t -> t.closeVote());
        check.refuses(Scene.SECOND_NIGHT, "closeVote()", Check.STATE, t -> t.closeVote());
        for (Scene scene : Scene.OVER) {
            check.refuses(scene, "closeVote()", Check.STATE, t -> t.closeVote());
        }
    }

    // ---- promises 8 to 11

    private static void protects() {
        check.sentence("P8: returns whom it had chosen before in this night, 0 too; NONE at first");
        check.answers(Scene.FIRST_NIGHT, "protect(0)", NONE, t -> t.protect(0));
        check.answers(Scene.SECOND_NIGHT, "protect(0)", 3, t -> t.protect(0));
        check.answers(Scene.SECOND_NIGHT, "protect(1) after 0", 0, t -> {
            t.protect(0);
            return t.protect(1);
        });
        check.answers(Scene.SECOND_NIGHT, "protect(3) again", 3, t -> t.protect(3));
        check.sentence("P8: it is not night: by day, and when the game is over");
        check.refuses(Scene.SECOND_DAY, "protect(3)", Check.STATE, t -> t.protect(3));
        for (Scene scene : Scene.OVER) {
            check.refuses(scene, "protect(3)", Check.STATE, t -> t.protect(3));
        }
        check.sentence("P8: the guard is dead");
        check.refuses(Scene.GUARD_DEAD, "protect(5)", Check.STATE, t -> t.protect(5));
        check.refuses(Scene.BOTH_DEAD, "protect(6)", Check.STATE, t -> t.protect(6));
        check.sentence("P8: no such player: below 0 or too large");
        for (int p : NOBODY) {
            check.refuses(Scene.SECOND_NIGHT, "protect(" + p + ")", Check.INDEX, t -> t.protect(p));
            check.refuses(Scene.FIRST_NIGHT, "protect(" + p + ")", Check.INDEX, t -> t.protect(p));
        }
        check.refuses(Scene.FIRST_NIGHT, "protect(6)", Check.INDEX, t -> t.protect(6));
        check.refuses(Scene.SEVEN_NIGHT, "protect(7)", Check.INDEX, t -> t.protect(7));
        check.sentence("P8: the player is dead");
        check.refuses(Scene.SECOND_NIGHT, "protect(6)", Check.ARGUMENT, t -> t.protect(6));
        check.refuses(Scene.SECOND_NIGHT, "protect(2)", Check.ARGUMENT, t -> t.protect(2));
        check.sentence("P8: the player was protected in the night before");
        check.refuses(Scene.SECOND_NIGHT, "protect(5)", Check.ARGUMENT, t -> t.protect(5));
        check.refuses(Scene.SEVEN_NIGHT, "protect(6)", Check.ARGUMENT, t -> t.protect(6));
        check.sentence("P8: of several exceptions the one that is listed first");
        check.refuses(Scene.SECOND_DAY, "not night, no player", Check.STATE, t -> t.protect(-1));
        check.refuses(Scene.SECOND_DAY, "not night, dead", Check.STATE, t -> t.protect(6));
        check.refuses(Scene.SECOND_DAY, "not night, protected before", Check.STATE, t -> t.protect(5));
        check.refuses(Scene.GUARD_DEAD, "the guard dead, no player", Check.STATE, t -> t.protect(8));
        check.refuses(Scene.GUARD_DEAD, "the guard dead, and is the player", Check.STATE, t -> t.protect(4));
        check.refuses(Scene.BOTH_DEAD, "the guard dead, protected before", Check.STATE, t -> t.protect(5));
    }

    private static void attacks() {
        check.sentence("P9: returns whom they had chosen before in this night, 0 too; NONE at first");
        check.answers(Scene.FIRST_NIGHT, "attack(5)", NONE, t -> t.attack(5));
        check.answers(Scene.SECOND_NIGHT, "attack(1)", 5, t -> t.attack(1));
        check.answers(Scene.SECOND_NIGHT, "attack(5) again", 5, t -> t.attack(5));
        check.answers(Scene.SEVEN_NIGHT, "attack(1) after 0", 0, t -> {
            t.attack(0);
            return t.attack(1);
        });
        check.sentence("P9: the witches attack with the guard and the seer dead, and the guard or the seer");
        check.answers(Scene.BOTH_DEAD, "attack(7)", 6, t -> t.attack(7));
        check.answers(Scene.FIRST_NIGHT, "attack(2)", NONE, t -> t.attack(2));
        check.answers(Scene.FIRST_NIGHT, "attack(3)", NONE, t -> t.attack(3));
        check.sentence("P9: it is not night: by day, and when the game is over");
        check.refuses(Scene.SECOND_DAY, "attack(5)", Check.STATE, t -> t.attack(5));
        for (Scene scene : Scene.OVER) {
            check.refuses(scene, "attack(3)", Check.STATE, t -> t.attack(3));
        }
        check.sentence("P9: no such player: below 0 or too large");
        for (int p : NOBODY) {
            check.refuses(Scene.SECOND_NIGHT, "attack(" + p + ")", Check.INDEX, t -> t.attack(p));
        }
        check.refuses(Scene.FIRST_NIGHT, "attack(6)", Check.INDEX, t -> t.attack(6));
        check.sentence("P9: the player is dead");
        check.refuses(Scene.SECOND_NIGHT, "attack(6)", Check.ARGUMENT, t -> t.attack(6));
        check.refuses(Scene.SECOND_NIGHT, "attack(2)", Check.ARGUMENT, t -> t.attack(2));
        check.sentence("P9: the player is a witch, the first and the last");
        check.refuses(Scene.SECOND_NIGHT, "attack(0)", Check.ARGUMENT, t -> t.attack(0));
        check.refuses(Scene.SECOND_NIGHT, "attack(7)", Check.ARGUMENT, t -> t.attack(7));
        check.sentence("P9: of several exceptions the one that is listed first");
        check.refuses(Scene.SECOND_DAY, "not night, no player", Check.STATE, t -> t.attack(8));
        check.refuses(Scene.SECOND_DAY, "not night, dead", Check.STATE, t -> t.attack(6));
        check.refuses(Scene.SECOND_DAY, "not night, a witch", Check.STATE, t -> t.attack(0));
    }

    private static void looks() {
        check.sentence("P10: returns whom it had chosen before in this night, 0 too; NONE at first");
        check.answers(Scene.FIRST_NIGHT, "look(0)", NONE, t -> t.look(0));
        check.answers(Scene.GUARD_DEAD, "look(1) after 0", 0, t -> t.look(1));
        check.answers(Scene.SECOND_NIGHT, "look(7) again", 7, t -> t.look(7));
        check.sentence("P10: it is not night: by day, and when the game is over");
        check.refuses(Scene.SECOND_DAY, "look(5)", Check.STATE, t -> t.look(5));
        for (Scene scene : Scene.OVER) {
            check.refuses(scene, "look(3)", Check.STATE, t -> t.look(3));
        }
        check.sentence("P10: the seer is dead");
        check.refuses(Scene.SEER_DEAD, "look(5)", Check.STATE, t -> t.look(5));
        check.refuses(Scene.BOTH_DEAD, "look(5)", Check.STATE, t -> t.look(5));
        check.sentence("P10: no such player: below 0 or too large");
        for (int p : NOBODY) {
            check.refuses(Scene.SECOND_NIGHT, "look(" + p + ")", Check.INDEX, t -> t.look(p));
        }
        check.refuses(Scene.FIRST_NIGHT, "look(6)", Check.INDEX, t -> t.look(6));
        check.sentence("P10: the player is dead");
        check.refuses(Scene.SECOND_NIGHT, "look(6)", Check.ARGUMENT, t -> t.look(6));
        check.refuses(Scene.GUARD_DEAD, "look(4)", Check.ARGUMENT, t -> t.look(4));
        check.sentence("P10: the player is the seer");
        check.refuses(Scene.FIRST_NIGHT, "look(2)", Check.ARGUMENT, t -> t.look(2));
        check.refuses(Scene.SECOND_NIGHT, "look(3)", Check.ARGUMENT, t -> t.look(3));
        check.sentence("P10: of several exceptions the one that is listed first");
        check.refuses(Scene.SECOND_DAY, "not night, no player", Check.STATE, t -> t.look(-1));
        check.refuses(Scene.SECOND_DAY, "not night, the seer", Check.STATE, t -> t.look(3));
        check.refuses(Scene.SECOND_DAY, "not night, dead", Check.STATE, t -> t.look(6));
        check.refuses(Scene.SEER_DEAD, "the seer dead, no player", Check.STATE, t -> t.look(8));
        check.refuses(Scene.SEER_DEAD, "the seer dead, and is the player", Check.STATE, t -> t.look(3));
    }

    private static void endsOfNights() {
        check.sentence("P11: returns the player who died, 0 too; NONE if nobody did");
        check.answers(Scene.SECOND_NIGHT, "endNight()", 5, t -> t.endNight());
        check.answers(Scene.SEVEN_NIGHT, "endNight() after attack(0)", 0, t -> {
            t.attack(0);
            return t.endNight();
        });
        check.answers(Scene.SEVEN_NIGHT, "endNight() after attack(0) and protect(0)", NONE, t -> {
            t.attack(0);
            t.protect(0);
            return t.endNight();
        });
        check.answers(Scene.SEVEN_NIGHT, "endNight() without an attack", NONE, t -> t.endNight());
        check.answers(Scene.FIRST_NIGHT, "endNight() without a choice", NONE, t -> t.endNight());
        check.sentence("P11: returns who died also when that ends the game");
        check.answers(Scene.GUARD_DEAD, "endNight()", 5, t -> t.endNight());
        check.answers(Scene.GUARD_DEAD, "phase() then", WitchTrial.WITCHES_WON, t -> {
            t.endNight();
            return t.phase();
        });
        check.sentence("P11: it is not night: by day, and when the game is over");
        check.refuses(Scene.SIX, "endNight()", Check.STATE, t -> t.endNight());
        check.refuses(Scene.SECOND_DAY, "endNight()", Check.STATE, t -> t.endNight());
        for (Scene scene : Scene.OVER) {
            check.refuses(scene, "endNight()", Check.STATE, t -> t.endNight());
        }
    }

    // ---- promises 12 to 15

    private static void days() {
        check.sentence("P12: day 1 at first, a night has the number of the day before it, then comes the next");
        WitchTrial t = Check.six();
        for (int day = 1; day <= 100; day++) {
            check.equal("day() by day", t.day(), day);
            t.closeVote();
            check.equal("day() by night", t.day(), day);
            t.endNight();
        }
        check.sentence("P12: it is the same when the game is over, by a vote and by an attack");
        check.answers(Scene.VILLAGE_WON, "day()", 2, u -> u.day());
        check.answers(Scene.WON_BY_VOTE, "day()", 1, u -> u.day());
        check.answers(Scene.WON_BY_ATTACK, "day()", 1, u -> u.day());
        check.sentence("P12: a game in place of another begins with day 1");
        check.answers(Scene.SECOND_NIGHT, "day()", 1, u -> {
            u.start(4, 1, 1, 2);
            return u.day();
        });
    }

    private static void alive() {
        check.sentence("P13: at first all players are alive, no more and no fewer");
        for (int n = 4; n <= 8; n++) {
            WitchTrial t = new WitchTrial();
            t.start(n, 1, 1, 2);
            check.equal("alive() of " + n, t.alive(), (1 << n) - 1);
        }
        check.sentence("P13: the hanged and the killed are not, by day, by night and when the game is over");
        for (Scene scene : Scene.ALL) {
            if (scene.players > 0) {
                check.answers(scene, "alive()", scene.alive, t -> t.alive());
            }
        }
        check.sentence("P13: the first and the last player are dead as all others are");
        check.answers(Scene.SEVEN_NIGHT, "alive() without 0", 126, t -> {
            t.attack(0);
            t.endNight();
            return t.alive();
        });
        check.answers(Scene.SEER_DEAD, "alive() without 3 and 7", 255 - 8 - 128, t -> {
            t.endNight();
            return t.alive();
        });
        check.sentence("P13: who is attacked lives until the night ends, and who has votes until the vote is closed");
        check.answers(Scene.SECOND_NIGHT, "alive()", 187, t -> t.alive());
        check.answers(Scene.SECOND_DAY, "alive()", 187, t -> t.alive());
    }

    private static void votesFor() {
        check.sentence("P14: no votes, one, several; for the first and the last player");
        int[] due = {1, 0, 0, 0, 0, 2, 0, 1};
        for (int p = 0; p < 8; p++) {
            int player = p;
            check.answers(Scene.EIGHT, "votesFor(" + p + ")", due[p], t -> t.votesFor(player));
        }
        check.sentence("P14: the dead have none; by night and when the game is over nobody has any");
        check.answers(Scene.SECOND_DAY, "votesFor(6)", 0, t -> t.votesFor(6));
        check.answers(Scene.GUARD_DEAD, "votesFor(4)", 0, t -> t.votesFor(4));
        check.answers(Scene.VILLAGE_WON, "votesFor(1)", 0, t -> t.votesFor(1));
        check.answers(Scene.WON_BY_VOTE, "votesFor(4)", 0, t -> t.votesFor(4));
        check.sentence("P14: no such player: NONE and others below 0, or too large");
        for (int p : NOBODY) {
            check.refuses(Scene.EIGHT, "votesFor(" + p + ")", Check.INDEX, t -> t.votesFor(p));
            check.refuses(Scene.WON_BY_VOTE, "votesFor(" + p + ")", Check.INDEX, t -> t.votesFor(p));
        }
        check.refuses(Scene.FOUR, "votesFor(4)", Check.INDEX, t -> t.votesFor(4));
    }

    private static void lookedAt() {
        check.sentence("P15: nobody at first, and nobody by a choice before the night ends");
        check.answers(Scene.SIX, "lookedAt()", 0, t -> t.lookedAt());
        check.answers(Scene.GUARD_DEAD, "lookedAt()", 0, t -> t.lookedAt());
        check.answers(Scene.SECOND_NIGHT, "lookedAt()", 1, t -> t.lookedAt());
        check.sentence("P15: one more after the night, the same if it looks again, the same without a look");
        check.answers(Scene.SECOND_NIGHT, "lookedAt()", 1 | 128, t -> nextLookedAt(t));
        check.answers(Scene.SECOND_NIGHT, "lookedAt()", 1, t -> {
            t.look(0);
            return nextLookedAt(t);
        });
        check.answers(Scene.FIRST_NIGHT, "lookedAt()", 0, t -> nextLookedAt(t));
        check.sentence("P15: at whom the seer had looked stays known when it is dead, and when the game is over");
        check.answers(Scene.SECOND_DAY, "lookedAt()", 1, t -> {
            t.vote(0, 3);
            t.vote(5, 3);
            t.vote(7, 3);
            t.closeVote();
            return t.lookedAt();
        });
        check.answers(Scene.VILLAGE_WON, "lookedAt()", 2, t -> t.lookedAt());
        check.sentence("P15: the seer did not look in a night in which it died, or that ended the game");
        check.answers(Scene.WON_BY_ATTACK, "lookedAt()", 0, t -> t.lookedAt());
        check.answers(Scene.SECOND_NIGHT, "lookedAt()", 1, t -> {
            t.protect(1);
            t.attack(3);
            return nextLookedAt(t);
        });
    }

    private static int nextLookedAt(WitchTrial trial) {
        trial.endNight();
        return trial.lookedAt();
    }
}
