/** Promises 4 and 5: claim and claimAmong. */
public final class ClaimTest {
    private static final Check check = new Check("ClaimTest");
    private static final int IS_WITCH = WitchTrial.IS_WITCH, IS_HONEST = WitchTrial.IS_HONEST;
    private static final int IS_SEER = WitchTrial.IS_SEER, IS_GUARD = WitchTrial.IS_GUARD;

    public static void main(String[] args) {
        claimsOfTheHonest();
        claimsOfWitches();
        claimsOfOneself();
        claimsAdd();
        claimRefuses();
        claimAmongAnswers();
        claimAmongRefuses();
        claimsAreForTheDay();
        check.finish();
    }

    // Of the 180 worlds of six players, a player is a witch in 60.
    private static void claimsOfTheHonest() {
        check.equal("claim(5, IS_WITCH, 0)", Check.six().claim(5, IS_WITCH, 0), 108);
        check.equal("claim(5, IS_HONEST, 4)", Check.six().claim(5, IS_HONEST, 4), 60 + 72);
        check.equal("claim(5, IS_SEER, 2)", Check.six().claim(5, IS_SEER, 2), 60 + 18);
        check.equal("claim(5, IS_GUARD, 3)", Check.six().claim(5, IS_GUARD, 3), 60 + 18);
        check.equal("claim(2, IS_HONEST, 3)", Check.six().claim(2, IS_HONEST, 3), 60 + 72);
        check.equal("claim(3, IS_WITCH, 1)", Check.six().claim(3, IS_WITCH, 1), 108);
    }

    private static void claimsOfWitches() {
        check.equal("a false claim of a witch", Check.six().claim(0, IS_WITCH, 5), 60 + 48);
        check.equal("a true claim of a witch", Check.six().claim(0, IS_WITCH, 1), 60 + 48);
        check.equal("a false IS_HONEST", Check.six().claim(1, IS_HONEST, 0), 60 + 72);
        check.equal("a false IS_SEER", Check.six().claim(1, IS_SEER, 3), 60 + 18);
        check.equal("a false IS_GUARD", Check.six().claim(1, IS_GUARD, 2), 60 + 18);
    }

    private static void claimsOfOneself() {
        check.equal("a witch: I am a witch", Check.six().claim(0, IS_WITCH, 0), 60);
        check.equal("a witch: I am honest", Check.six().claim(0, IS_HONEST, 0), 180);
        check.equal("a witch: I am the seer", Check.six().claim(0, IS_SEER, 0), 60 + 30);
        check.equal("a witch: I am the guard", Check.six().claim(0, IS_GUARD, 0), 60 + 30);
        check.equal("a villager: I am honest", Check.six().claim(4, IS_HONEST, 4), 180);
        check.equal("the seer: I am the seer", Check.six().claim(2, IS_SEER, 2), 60 + 30);
        check.equal("the guard: I am the guard", Check.six().claim(3, IS_GUARD, 3), 60 + 30);
        WitchTrial t = Check.six();
        check.refused(t, "a villager: I am a witch", Check.ELEMENT, () -> t.claim(4, IS_WITCH, 4));
        check.refused(t, "a villager: I am the seer", Check.ELEMENT, () -> t.claim(4, IS_SEER, 4));
        check.refused(t, "the guard: I am the seer", Check.ELEMENT, () -> t.claim(3, IS_SEER, 3));
        check.refused(t, "the seer: I am the guard", Check.ELEMENT, () -> t.claim(2, IS_GUARD, 2));
    }

    private static void claimsAdd() {
        WitchTrial t = Check.six();
        check.equal("claim(5, IS_WITCH, 0)", t.claim(5, IS_WITCH, 0), 108);
        check.equal("claim(5, IS_WITCH, 1)", t.claim(5, IS_WITCH, 1), 72);
        check.equal("the same claim again", t.claim(5, IS_WITCH, 1), 72);
        check.equal("claim(1, IS_HONEST, 0)", t.claim(1, IS_HONEST, 0), 60);
        check.equal("claim(4, IS_HONEST, 5)", t.claim(4, IS_HONEST, 5), 24);
        check.equal("worlds(NONE)", t.worlds(WitchTrial.NONE), 24);
        Check.hang(t, 0);
        t.endNight();
        check.equal("a claim about a dead player", t.claim(4, IS_WITCH, 0), t.worlds(WitchTrial.NONE));
        check.refused(t, "a false one about it", Check.ELEMENT, () -> t.claim(4, IS_HONEST, 0));
    }

    private static void claimRefuses() {
        WitchTrial t = Check.six();
        for (int p : Check.NO_PLAYERS) {
            check.refused(t, "claim(" + p + ", 9, 0)", Check.INDEX, () -> t.claim(p, 9, 0));
            check.refused(t, "claim(5, 9, " + p + ")", Check.INDEX, () -> t.claim(5, 9, p));
        }
        check.refused(t, "claim(6, IS_WITCH, 0)", Check.INDEX, () -> t.claim(6, IS_WITCH, 0));
        check.refused(t, "claim(5, IS_WITCH, 6)", Check.INDEX, () -> t.claim(5, IS_WITCH, 6));
        for (int kind : new int[] {-1, 4, 5, Integer.MAX_VALUE, Integer.MIN_VALUE}) {
            check.refused(t, "claim(5, " + kind + ", 0)", Check.ARGUMENT, () -> t.claim(5, kind, 0));
            check.refused(t, "claim(0, " + kind + ", 0)", Check.ARGUMENT, () -> t.claim(0, kind, 0));
        }
        check.refused(t, "a false IS_WITCH", Check.ELEMENT, () -> t.claim(5, IS_WITCH, 4));
        check.refused(t, "a false IS_HONEST", Check.ELEMENT, () -> t.claim(5, IS_HONEST, 0));
        check.refused(t, "a false IS_SEER", Check.ELEMENT, () -> t.claim(5, IS_SEER, 3));
        check.refused(t, "a false IS_GUARD", Check.ELEMENT, () -> t.claim(5, IS_GUARD, 2));
        check.refused(t, "IS_SEER of a witch", Check.ELEMENT, () -> t.claim(2, IS_SEER, 0));
        Check.hang(t, 0);
        t.endNight();
        check.refused(t, "claim of a dead witch", Check.ELEMENT, () -> t.claim(0, IS_WITCH, 1));
        check.refused(t, "its claim of no kind", Check.ARGUMENT, () -> t.claim(0, 4, 1));
    }

    private static void claimAmongAnswers() {
        check.equal("the honest 5, one", Check.six().claimAmong(5, 1), 108);
        check.equal("the honest 5, one of two", Check.six().claimAmong(5, 1 | 16), 60 + 84);
        check.equal("the honest 5, all", Check.six().claimAmong(5, 63), 180);
        check.equal("the honest 5, itself too", Check.six().claimAmong(5, 1 | 32), 108);
        check.equal("a witch, none", Check.six().claimAmong(0, 0), 60);
        check.equal("a witch, itself", Check.six().claimAmong(0, 1), 60);
        check.equal("a witch, falsely", Check.six().claimAmong(0, 16), 60 + 48);
        check.equal("a witch, the seer and the guard", Check.six().claimAmong(1, 4 | 8), 60 + 84);
        check.equal("of eight, the highest", Check.eight().claimAmong(0, 128), 420 + 300);
        WitchTrial t = Check.six();
        Check.hang(t, 0);
        t.endNight();
        int worlds = t.worlds(WitchTrial.NONE);
        check.equal("worlds with a dead witch", worlds, 60);
        check.equal("a dead witch is one", t.claimAmong(5, 1), worlds);
    }

    private static void claimAmongRefuses() {
        WitchTrial t = Check.six();
        for (int p : Check.NO_PLAYERS) {
            check.refused(t, "claimAmong(" + p + ", -1)", Check.INDEX, () -> t.claimAmong(p, -1));
        }
        check.refused(t, "claimAmong(6, 1)", Check.INDEX, () -> t.claimAmong(6, 1));
        for (int set : new int[] {64, 65, 128, 256, 1 << 8, 1 << 16, -1, Integer.MIN_VALUE, Integer.MAX_VALUE}) {
            check.refused(t, "claimAmong(5, " + set + ")", Check.ARGUMENT, () -> t.claimAmong(5, set));
            check.refused(t, "claimAmong(0, " + set + ")", Check.ARGUMENT, () -> t.claimAmong(0, set));
        }
        check.refused(t, "an honest one, none", Check.ELEMENT, () -> t.claimAmong(3, 0));
        check.refused(t, "an honest one, the honest", Check.ELEMENT, () -> t.claimAmong(3, 4 | 8 | 16 | 32));
        check.refused(t, "the seer, the guard", Check.ELEMENT, () -> t.claimAmong(2, 8));
        Check.hang(t, 0);
        t.endNight();
        check.refused(t, "a dead witch", Check.ELEMENT, () -> t.claimAmong(0, 2));
        check.refused(t, "a dead witch, of no players", Check.ARGUMENT, () -> t.claimAmong(0, 64));
    }

    private static void claimsAreForTheDay() {
        WitchTrial t = Check.six();
        t.closeVote();
        refusesAtOtherTimes(t);
        t.start(4, 1, 2, 3);
        Check.hang(t, 0);
        refusesAtOtherTimes(t);
        t.start(4, 1, 2, 3);
        Check.hang(t, 3);
        t.attack(2);
        t.endNight();
        refusesAtOtherTimes(t);
    }

    private static void refusesAtOtherTimes(WitchTrial t) {
        String when = " in phase " + t.phase();
        check.refused(t, "claim" + when, Check.ELEMENT, () -> t.claim(1, IS_HONEST, 1));
        check.refused(t, "claim of no kind" + when, Check.ARGUMENT, () -> t.claim(1, 4, 0));
        check.refused(t, "claim of nobody" + when, Check.INDEX, () -> t.claim(8, 4, 0));
        check.refused(t, "claimAmong" + when, Check.ELEMENT, () -> t.claimAmong(1, 15));
        check.refused(t, "claimAmong nobody's" + when, Check.ARGUMENT, () -> t.claimAmong(1, 256));
        check.refused(t, "claimAmong of nobody" + when, Check.INDEX, () -> t.claimAmong(8, 256));
    }
}
