/** Promises 8 to 11, 12, 13 and 15: protect, attack, look, endNight, day, alive and lookedAt. */
public final class NightTest {
    private static final Check check = new Check("NightTest");
    private static final int NONE = WitchTrial.NONE;

    public static void main(String[] args) {
        choicesAndTheirChange();
        choicesAreForTheNight();
        choicesOfNoPlayer();
        protectRefuses();
        protectedInTheNightBefore();
        attackRefuses();
        lookRefuses();
        deathsAtNight();
        theSeerLooks();
        theDeadChooseNothing();
        attackEndsTheGame();
        days();
        check.finish();
    }

    private static void choicesAndTheirChange() {
        WitchTrial t = Check.eight();
        t.closeVote();
        check.equal("protect(4), itself", t.protect(4), NONE);
        check.equal("protect(0), a witch", t.protect(0), 4);
        check.equal("protect(0) again", t.protect(0), 0);
        check.equal("attack(5)", t.attack(5), NONE);
        check.equal("attack(3)", t.attack(3), 5);
        check.equal("attack(6)", t.attack(6), 3);
        check.equal("look(7)", t.look(7), NONE);
        check.equal("look(2)", t.look(2), 7);
        check.equal("look(2) again", t.look(2), 2);
        check.equal("endNight()", t.endNight(), 6);
        check.equal("lookedAt()", t.lookedAt(), 4);
        t.closeVote();
        check.equal("protect(5) the next night", t.protect(5), NONE);
        check.equal("attack(5) the next night", t.attack(5), NONE);
        check.equal("look(5) the next night", t.look(5), NONE);
    }

    private static void choicesAreForTheNight() {
        refusesAtOtherTimes(Check.eight());
        WitchTrial t = Scene.FOUR.make();
        Check.hang(t, 0);
        refusesAtOtherTimes(t);
        WitchTrial u = Scene.FOUR.make();
        Check.hang(u, 3);
        u.attack(1);
        u.endNight();
        refusesAtOtherTimes(u);
    }

    private static void refusesAtOtherTimes(WitchTrial t) {
        String when = " in phase " + t.phase();
        for (int p : new int[] {-1, 0, 1, 2, 3, 8}) {
            check.refused(t, "protect(" + p + ")" + when, Check.STATE, () -> t.protect(p));
            check.refused(t, "attack(" + p + ")" + when, Check.STATE, () -> t.attack(p));
            check.refused(t, "look(" + p + ")" + when, Check.STATE, () -> t.look(p));
        }
        check.refused(t, "endNight()" + when, Check.STATE, t::endNight);
    }

    private static void choicesOfNoPlayer() {
        WitchTrial t = Check.six();
        t.closeVote();
        for (int p : Check.NO_PLAYERS) {
            check.refused(t, "protect(" + p + ")", Check.INDEX, () -> t.protect(p));
            check.refused(t, "attack(" + p + ")", Check.INDEX, () -> t.attack(p));
            check.refused(t, "look(" + p + ")", Check.INDEX, () -> t.look(p));
        }
        check.refused(t, "protect(6)", Check.INDEX, () -> t.protect(6));
        check.refused(t, "attack(6)", Check.INDEX, () -> t.attack(6));
        check.refused(t, "look(6)", Check.INDEX, () -> t.look(6));
    }

    private static void protectRefuses() {
        WitchTrial t = Check.eight();
        Check.hang(t, 0);
        t.protect(5);
        check.refused(t, "protect(0), who is dead", Check.ARGUMENT, () -> t.protect(0));
        check.equal("the choice stands", t.protect(6), 5);
        t.attack(4);
        check.equal("endNight() kills the guard", t.endNight(), 4);
        t.closeVote();
        for (int p : new int[] {-1, 0, 4, 5, 6, 8}) {
            check.refused(t, "protect(" + p + ") with the guard dead", Check.STATE, () -> t.protect(p));
        }
    }

    private static void protectedInTheNightBefore() {
        WitchTrial t = Check.eight();
        t.closeVote();
        t.protect(4);
        t.protect(5);
        t.endNight();
        t.closeVote();
        check.refused(t, "protect(5), protected before", Check.ARGUMENT, () -> t.protect(5));
        check.equal("protect(4), only thought of", t.protect(4), NONE);
        check.refused(t, "protect(5) in place of 4", Check.ARGUMENT, () -> t.protect(5));
        check.equal("protect(6), the choice stood", t.protect(6), 4);
        t.endNight();
        t.closeVote();
        check.refused(t, "protect(6), protected before", Check.ARGUMENT, () -> t.protect(6));
        check.equal("protect(5), two nights ago", t.protect(5), NONE);
        t.endNight();
        t.closeVote();
        t.endNight();
        t.closeVote();
        check.equal("protect(5) after a night without", t.protect(5), NONE);
        t.attack(5);
        check.equal("endNight() with 5 attacked", t.endNight(), NONE);
        t.closeVote();
        check.refused(t, "protect(5) after an attack that failed", Check.ARGUMENT, () -> t.protect(5));
    }

    private static void attackRefuses() {
        WitchTrial t = Check.eight();
        Check.hang(t, 7);
        t.attack(5);
        for (int p : new int[] {0, 1, 2, 7}) {
            check.refused(t, "attack(" + p + ")", Check.ARGUMENT, () -> t.attack(p));
        }
        check.equal("the choice stands", t.attack(6), 5);
        WitchTrial u = Check.eight();
        Check.hang(u, 0);
        check.refused(u, "attack on a dead witch", Check.ARGUMENT, () -> u.attack(0));
    }

    private static void lookRefuses() {
        WitchTrial t = Check.eight();
        Check.hang(t, 7);
        t.look(5);
        check.refused(t, "look(3), the seer", Check.ARGUMENT, () -> t.look(3));
        check.refused(t, "look(7), who is dead", Check.ARGUMENT, () -> t.look(7));
        check.equal("the choice stands", t.look(0), 5);
        t.endNight();
        check.equal("lookedAt()", t.lookedAt(), 1);
        t.start(8, 7, 3, 4);
        Check.hang(t, 3);
        check.equal("phase() with the seer hanged", t.phase(), WitchTrial.NIGHT);
        for (int p : new int[] {-1, 0, 1, 3, 7, 8}) {
            check.refused(t, "look(" + p + ") with the seer dead", Check.STATE, () -> t.look(p));
        }
    }

    private static void deathsAtNight() {
        WitchTrial t = Check.eight();
        t.closeVote();
        check.equal("endNight() with nothing chosen", t.endNight(), NONE);
        check.equal("alive()", t.alive(), 255);
        t.closeVote();
        t.protect(4);
        check.equal("endNight() with nobody attacked", t.endNight(), NONE);
        check.equal("alive()", t.alive(), 255);
        t.closeVote();
        t.attack(5);
        t.protect(5);
        check.equal("endNight() with the attacked protected", t.endNight(), NONE);
        check.equal("alive()", t.alive(), 255);
        t.closeVote();
        t.protect(6);
        t.attack(5);
        check.equal("endNight() with another protected", t.endNight(), 5);
        check.equal("alive()", t.alive(), 255 - 32);
        check.equal("a villager has died", t.worldsWith(NONE, 5, WitchTrial.VILLAGER), t.worlds(NONE));
        check.equal("worlds(NONE)", t.worlds(NONE), 35 * 4 * 3);
        t.closeVote();
        t.protect(4);
        t.attack(4);
        check.equal("endNight() with the guard guarding itself", t.endNight(), NONE);
        t.closeVote();
        check.equal("endNight(): the last night's attack is forgotten", t.endNight(), NONE);
        t.start(4, 8, 1, 2);
        t.closeVote();
        t.attack(0);
        check.equal("endNight() with the player 0 attacked", t.endNight(), 0);
        check.equal("alive()", t.alive(), 14);
        check.equal("phase()", t.phase(), WitchTrial.DAY);
        check.equal("lookedAt() without a look", t.lookedAt(), 0);
    }

    private static void theSeerLooks() {
        WitchTrial t = new WitchTrial();
        t.start(8, 1, 3, 4);
        Check.lookAt(t, 0);
        check.equal("lookedAt()", t.lookedAt(), 1);
        t.closeVote();
        t.endNight();
        check.equal("lookedAt(): the look is forgotten, what it told is not", t.lookedAt(), 1);
        t.closeVote();
        t.look(7);
        t.attack(7);
        check.equal("lookedAt() by night", t.lookedAt(), 1);
        check.equal("endNight()", t.endNight(), 7);
        check.equal("lookedAt(): it looks at one who has just died", t.lookedAt(), 129);
        Check.lookAt(t, 0);
        check.equal("lookedAt(), one looked at again", t.lookedAt(), 129);
        t.closeVote();
        t.look(5);
        t.attack(3);
        t.protect(3);
        check.equal("endNight() with the seer attacked and protected", t.endNight(), NONE);
        check.equal("lookedAt()", t.lookedAt(), 129 + 32);
        t.closeVote();
        t.look(6);
        t.attack(3);
        check.equal("endNight() with the seer killed", t.endNight(), 3);
        check.equal("phase()", t.phase(), WitchTrial.DAY);
        check.equal("lookedAt(): it does not look", t.lookedAt(), 129 + 32);
    }

    private static void theDeadChooseNothing() {
        WitchTrial t = Check.eight();
        t.closeVote();
        t.protect(5);
        t.attack(4);
        check.equal("endNight() kills the guard", t.endNight(), 4);
        t.closeVote();
        check.equal("look(5)", t.look(5), NONE);
        t.attack(5);
        check.equal("endNight(): nobody protects", t.endNight(), 5);
    }

    private static void attackEndsTheGame() {
        WitchTrial t = Check.six();
        Check.hang(t, 5);
        t.look(0);
        t.attack(4);
        t.protect(2);
        check.equal("endNight() leaves two against two", t.endNight(), 4);
        check.equal("phase()", t.phase(), WitchTrial.WITCHES_WON);
        check.equal("lookedAt(): the seer does not look", t.lookedAt(), 0);
        check.equal("day() does not change", t.day(), 1);
        check.equal("alive()", t.alive(), 15);
        check.equal("what a dead one was is told", t.worldsWith(NONE, 4, WitchTrial.VILLAGER), t.worlds(NONE));
        t.start(6, 3, 2, 3);
        Check.hang(t, 5);
        t.look(0);
        t.attack(4);
        t.protect(4);
        check.equal("endNight() with the last of them protected", t.endNight(), NONE);
        check.equal("phase()", t.phase(), WitchTrial.DAY);
        check.equal("lookedAt()", t.lookedAt(), 1);
        check.equal("day()", t.day(), 2);
    }

    private static void days() {
        WitchTrial t = Check.six();
        for (int day = 1; day <= 120; day++) {
            check.equal("day() by day", t.day(), day);
            t.closeVote();
            check.equal("day() by night", t.day(), day);
            t.endNight();
        }
        Check.hang(t, 0);
        t.endNight();
        Check.hang(t, 1);
        check.equal("phase()", t.phase(), WitchTrial.VILLAGE_WON);
        check.equal("day() after the game", t.day(), 122);
        check.equal("alive() after the game", t.alive(), 60);
        t.start(6, 3, 2, 3);
        check.equal("day() of another game", t.day(), 1);
    }
}
