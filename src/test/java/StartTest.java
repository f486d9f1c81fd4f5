/** Promises 1 to 3: a new object, start and phase. */
public final class StartTest {
    private static final Check check = new Check("StartTest");

    public static void main(String[] args) {
        newObject();
        startAnswers();
        startRefuses();
        startBeginsAnew();
        phases();
        check.finish();
    }

    private static void newObject() {
        WitchTrial t = new WitchTrial();
        check.equal("phase() of a new object", t.phase(), WitchTrial.NO_GAME);
        check.refused(t, "claim without a game", Check.STATE, () -> t.claim(-1, 9, -1));
        check.refused(t, "claimAmong without a game", Check.STATE, () -> t.claimAmong(-1, -1));
        check.refused(t, "vote without a game", Check.STATE, () -> t.vote(0, 0));
        check.refused(t, "closeVote without a game", Check.STATE, t::closeVote);
        check.refused(t, "protect without a game", Check.STATE, () -> t.protect(0));
        check.refused(t, "attack without a game", Check.STATE, () -> t.attack(-1));
        check.refused(t, "look without a game", Check.STATE, () -> t.look(0));
        check.refused(t, "endNight without a game", Check.STATE, t::endNight);
        check.refused(t, "day without a game", Check.STATE, t::day);
        check.refused(t, "alive without a game", Check.STATE, t::alive);
        check.refused(t, "votesFor without a game", Check.STATE, () -> t.votesFor(-1));
        check.refused(t, "lookedAt without a game", Check.STATE, t::lookedAt);
        check.refused(t, "worlds without a game", Check.STATE, () -> t.worlds(-1));
        check.refused(t, "worldsWith without a game", Check.STATE, () -> t.worldsWith(-7, 9, 9));
        check.refused(t, "sureWitches without a game", Check.STATE, () -> t.sureWitches(-1));
        check.refused(t, "sureHonest without a game", Check.STATE, () -> t.sureHonest(-1));
        check.refused(t, "witchSets without a game", Check.STATE, () -> t.witchSets(-1));
        check.refused(t, "suspect without a game", Check.STATE, () -> t.suspect(-1));
        check.refused(t, "bestLook without a game", Check.STATE, t::bestLook);
        check.refused(t, "isPossible without a game", Check.STATE, () -> t.isPossible(-1, 1, 1, 2));
    }

    private static void startAnswers() {
        WitchTrial t = new WitchTrial();
        check.equal("start(4, 1, 1, 2)", t.start(4, 1, 1, 2), 24);
        check.equal("start(4, 8, 0, 1)", t.start(4, 8, 0, 1), 24);
        check.equal("start(5, 3, 2, 4)", t.start(5, 3, 2, 4), 60);
        check.equal("start(5, 16, 0, 1)", t.start(5, 16, 0, 1), 60);
        check.equal("start(6, 48, 0, 3)", t.start(6, 48, 0, 3), 180);
        check.equal("start(6, 1, 5, 4)", t.start(6, 1, 5, 4), 120);
        check.equal("start(7, 112, 3, 0)", t.start(7, 112, 3, 0), 420);
        check.equal("start(7, 5, 1, 3)", t.start(7, 5, 1, 3), 420);
        check.equal("start(8, 224, 0, 1)", t.start(8, 224, 0, 1), 1120);
        check.equal("start(8, 129, 1, 2)", t.start(8, 129, 1, 2), 840);
        check.equal("start(8, 1, 6, 7)", t.start(8, 1, 6, 7), 336);
    }

    private static void startRefuses() {
        refusesStarts(new WitchTrial());
        WitchTrial t = Check.six();
        t.claim(4, WitchTrial.IS_WITCH, 0);
        t.vote(4, 0);
        refusesStarts(t);
        check.equal("closeVote() after refused starts", t.closeVote(), 0);
        WitchTrial u = Check.six();
        u.closeVote();
        u.protect(2);
        u.attack(2);
        refusesStarts(u);
        check.equal("endNight() after refused starts", u.endNight(), WitchTrial.NONE);
    }

    private static void refusesStarts(WitchTrial t) {
        int[][] wrong = {
            {3, 1, 1, 2}, {9, 1, 1, 2}, {0, 1, 1, 2}, {-1, 1, 1, 2}, {32, 1, 1, 2}, {36, 1, 1, 2},
            {Integer.MAX_VALUE, 1, 1, 2}, {Integer.MIN_VALUE, 1, 1, 2},
            {4, 0, 1, 2}, {4, 3, 2, 3}, {4, 16, 1, 2}, {4, 17, 1, 2}, {5, 7, 3, 4}, {6, 7, 3, 4}, {8, 15, 4, 5},
            {8, 255, 0, 1}, {8, 256, 3, 4}, {8, 257, 3, 4}, {4, -1, 1, 2}, {8, Integer.MIN_VALUE, 1, 2},
            {8, Integer.MIN_VALUE | 1, 1, 2}, {8, 1 << 16, 1, 2},
            {4, 1, 0, 2}, {4, 1, -1, 2}, {4, 1, 4, 2}, {4, 1, 33, 2}, {4, 1, Integer.MAX_VALUE, 2},
            {4, 1, Integer.MIN_VALUE, 2},
            {4, 1, 2, 0}, {4, 1, 2, -1}, {4, 1, 2, 4}, {4, 1, 2, 33}, {4, 1, 2, Integer.MAX_VALUE},
            {4, 1, 2, Integer.MIN_VALUE},
            {4, 1, 2, 2}, {8, 7, 3, 3}, {8, 7, 2, 3}, {8, 7, 3, 2}, {7, 7, 3, 7}, {7, 7, 7, 3}, {7, 128, 0, 1},
        };
        for (int[] w : wrong) {
            String what = "start(" + w[0] + ", " + w[1] + ", " + w[2] + ", " + w[3] + ")";
            check.refused(t, what, Check.ARGUMENT, () -> t.start(w[0], w[1], w[2], w[3]));
        }
    }

    private static void startBeginsAnew() {
        WitchTrial t = Check.eight();
        t.claim(5, WitchTrial.IS_WITCH, 0);
        t.closeVote();
        t.protect(4);
        t.look(0);
        t.attack(5);
        t.endNight();
        t.vote(0, 1);
        check.equal("start in place of a game by day", t.start(8, 7, 3, 4), 1120);
        check.equal("what is seen of it", Check.seen(t), Check.seen(Check.eight()));
        t.closeVote();
        check.equal("whom the guard protected in the game before does not count", t.protect(4), WitchTrial.NONE);
        startInPlaceOfANight();
    }

    private static void startInPlaceOfANight() {
        WitchTrial t = Check.eight();
        Check.guard(t, 4);
        t.closeVote();
        t.protect(5);
        t.attack(6);
        t.look(1);
        check.equal("start in place of a game by night", t.start(8, 7, 3, 4), 1120);
        check.equal("what is seen of it", Check.seen(t), Check.seen(Check.eight()));
        t.closeVote();
        check.equal("no choice of the game before, protect", t.protect(4), WitchTrial.NONE);
        check.equal("no choice of the game before, attack", t.attack(6), WitchTrial.NONE);
        check.equal("no choice of the game before, look", t.look(1), WitchTrial.NONE);
        t.start(8, 7, 3, 4);
        t.closeVote();
        check.equal("nobody dies by a choice of the game before", t.endNight(), WitchTrial.NONE);
        check.equal("nobody is looked at by one", t.lookedAt(), 0);
        t.start(4, 1, 1, 2);
        check.refused(t, "votesFor(4) in a smaller game", Check.INDEX, () -> t.votesFor(4));
        check.equal("alive() in a smaller game", t.alive(), 15);
    }

    private static void phases() {
        WitchTrial t = new WitchTrial();
        t.start(4, 1, 1, 2);
        check.equal("phase() by day", t.phase(), WitchTrial.DAY);
        t.closeVote();
        check.equal("phase() by night", t.phase(), WitchTrial.NIGHT);
        t.endNight();
        check.equal("phase() the next day", t.phase(), WitchTrial.DAY);
        Check.hang(t, 0);
        check.equal("phase() with no witch alive", t.phase(), WitchTrial.VILLAGE_WON);
        t.start(4, 1, 1, 2);
        check.equal("phase() of another game", t.phase(), WitchTrial.DAY);
        Check.hang(t, 3);
        check.equal("phase() with one witch against two", t.phase(), WitchTrial.NIGHT);
        t.attack(1);
        t.endNight();
        check.equal("phase() with one witch against one", t.phase(), WitchTrial.WITCHES_WON);
        t.start(5, 3, 2, 3);
        Check.hang(t, 4);
        check.equal("phase() with two witches against two, by a vote", t.phase(), WitchTrial.WITCHES_WON);
        t.start(5, 3, 2, 3);
        Check.hang(t, 0);
        check.equal("phase() with one of two witches hanged", t.phase(), WitchTrial.NIGHT);
        t.endNight();
        Check.hang(t, 1);
        check.equal("phase() with both hanged", t.phase(), WitchTrial.VILLAGE_WON);
    }
}
