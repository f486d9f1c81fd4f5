/** Promises 6, 7 and 14: vote, closeVote and votesFor. */
public final class VoteTest {
    private static final Check check = new Check("VoteTest");
    private static final int NONE = WitchTrial.NONE;

    public static void main(String[] args) {
        votes();
        voteRefuses();
        hanging();
        hangingEndsTheGame();
        closeVoteRefuses();
        votesForRefuses();
        check.finish();
    }

    private static void votes() {
        WitchTrial t = Check.six();
        check.equal("votesFor(0) before any", t.votesFor(0), 0);
        check.equal("vote(0, 1)", t.vote(0, 1), 1);
        check.equal("vote(2, 1)", t.vote(2, 1), 2);
        check.equal("the same vote again", t.vote(2, 1), 2);
        check.equal("votesFor(1)", t.votesFor(1), 2);
        check.equal("a changed vote", t.vote(2, 5), 1);
        check.equal("votesFor(1) after it", t.votesFor(1), 1);
        check.equal("votesFor(5) after it", t.votesFor(5), 1);
        check.equal("a vote for itself", t.vote(5, 5), 2);
        check.equal("votesFor(2)", t.votesFor(2), 0);
        check.equal("vote(1, 0)", t.vote(1, 0), 1);
        check.equal("votesFor(0)", t.votesFor(0), 1);
    }

    private static void voteRefuses() {
        WitchTrial t = Check.six();
        t.vote(4, 5);
        for (int p : Check.NO_PLAYERS) {
            check.refused(t, "vote(" + p + ", 0)", Check.INDEX, () -> t.vote(p, 0));
            check.refused(t, "vote(0, " + p + ")", Check.INDEX, () -> t.vote(0, p));
        }
        check.refused(t, "vote(6, 0)", Check.INDEX, () -> t.vote(6, 0));
        check.refused(t, "vote(0, 6)", Check.INDEX, () -> t.vote(0, 6));
        t.closeVote();
        check.refused(t, "vote by night", Check.STATE, () -> t.vote(0, 1));
        check.refused(t, "vote by night of nobody", Check.STATE, () -> t.vote(6, -1));
        t.endNight();
        check.refused(t, "vote of the dead", Check.ARGUMENT, () -> t.vote(5, 0));
        check.refused(t, "vote for the dead", Check.ARGUMENT, () -> t.vote(0, 5));
        check.refused(t, "vote of the dead for itself", Check.ARGUMENT, () -> t.vote(5, 5));
        check.refused(t, "vote of the dead for nobody", Check.INDEX, () -> t.vote(5, 6));
        check.refused(t, "vote of nobody for the dead", Check.INDEX, () -> t.vote(6, 5));
        t.start(4, 1, 1, 2);
        Check.hang(t, 0);
        check.refused(t, "vote after the game", Check.STATE, () -> t.vote(1, 1));
    }

    private static void hanging() {
        WitchTrial t = Check.eight();
        check.equal("closeVote() without votes", t.closeVote(), NONE);
        check.equal("alive()", t.alive(), 255);
        t.endNight();
        t.vote(0, 1);
        t.vote(1, 0);
        check.equal("closeVote() with one against one", t.closeVote(), NONE);
        check.equal("votesFor(0) after it", t.votesFor(0), 0);
        t.endNight();
        check.equal("votesFor(1) the next day", t.votesFor(1), 0);
        t.vote(0, 6);
        t.vote(1, 5);
        t.vote(2, 5);
        t.vote(3, 6);
        t.vote(4, 7);
        t.vote(6, 7);
        t.vote(5, 7);
        check.equal("closeVote() with two, two and three", t.closeVote(), 7);
        check.equal("alive() after it", t.alive(), 127);
        check.equal("phase() after it", t.phase(), WitchTrial.NIGHT);
        check.equal("votesFor(7) after it", t.votesFor(7), 0);
        t.endNight();
        t.vote(0, 5);
        t.vote(1, 0);
        t.vote(2, 0);
        t.vote(3, 6);
        t.vote(4, 6);
        check.equal("closeVote() with one, two and two", t.closeVote(), NONE);
        t.endNight();
        t.vote(0, 0);
        check.equal("closeVote() with one vote", t.closeVote(), 0);
        check.equal("worldsWith the witch who was hanged", t.worldsWith(NONE, 0, WitchTrial.WITCH), t.worlds(NONE));
    }

    private static void hangingEndsTheGame() {
        WitchTrial t = new WitchTrial();
        t.start(5, 16, 0, 1);
        t.vote(2, 4);
        check.equal("closeVote() hangs the only witch", t.closeVote(), 4);
        check.equal("phase()", t.phase(), WitchTrial.VILLAGE_WON);
        check.equal("day()", t.day(), 1);
        check.equal("votesFor(4) is forgotten", t.votesFor(4), 0);
        check.equal("worlds(NONE)", t.worlds(NONE), 12);
        t.start(7, 7, 3, 4);
        t.vote(2, 6);
        check.equal("closeVote() leaves three against three", t.closeVote(), 6);
        check.equal("phase()", t.phase(), WitchTrial.WITCHES_WON);
        check.equal("alive()", t.alive(), 63);
        check.equal("votesFor(6) is forgotten", t.votesFor(6), 0);
    }

    private static void closeVoteRefuses() {
        WitchTrial t = Check.six();
        t.vote(0, 4);
        t.closeVote();
        check.refused(t, "closeVote by night", Check.STATE, t::closeVote);
        t.start(4, 1, 1, 2);
        Check.hang(t, 0);
        check.refused(t, "closeVote after the game", Check.STATE, t::closeVote);
    }

    private static void votesForRefuses() {
        WitchTrial t = Check.six();
        for (int p : Check.NO_PLAYERS) {
            check.refused(t, "votesFor(" + p + ")", Check.INDEX, () -> t.votesFor(p));
        }
        check.refused(t, "votesFor(6)", Check.INDEX, () -> t.votesFor(6));
        t.vote(0, 5);
        check.equal("votesFor(5)", t.votesFor(5), 1);
        t.closeVote();
        check.equal("votesFor(5) dead by night", t.votesFor(5), 0);
    }
}
