/** Promises 16 to 23: the book of worlds. */
public final class BookTest {
    private static final Check check = new Check("BookTest");
    private static final int NONE = WitchTrial.NONE;
    private static final int VILLAGER = WitchTrial.VILLAGER, WITCH = WitchTrial.WITCH;
    private static final int SEER = WitchTrial.SEER, GUARD = WitchTrial.GUARD;

    public static void main(String[] args) {
        worldsOfViewers();
        oneWorldIsLeft();
        theSeerKnowsWhatItSaw();
        theDeadKnowTheSame();
        rolesOfTheDeadAreTold();
        worldsWithRoles();
        sureSets();
        suspects();
        bestLooks();
        possibleWorlds();
        noSuchPlayer();
        check.finish();
    }

    private static void worldsOfViewers() {
        WitchTrial t = Check.eight();
        check.equal("worlds(NONE)", t.worlds(NONE), 1120);
        check.equal("worlds(0), a witch", t.worlds(0), 20);
        check.equal("worlds(2), a witch", t.worlds(2), 20);
        check.equal("worlds(3), the seer", t.worlds(3), 35 * 4);
        check.equal("worlds(4), the guard", t.worlds(4), 35 * 4);
        check.equal("worlds(5), a villager", t.worlds(5), 35 * 4 * 3);
        check.equal("witchSets(NONE)", t.witchSets(NONE), 56);
        check.equal("witchSets(1), a witch", t.witchSets(1), 1);
        check.equal("witchSets(3), the seer", t.witchSets(3), 35);
        check.equal("witchSets(7), a villager", t.witchSets(7), 35);
        t.claim(5, WitchTrial.IS_WITCH, 0);
        check.equal("witchSets(NONE) after a claim", t.witchSets(NONE), 21 + 15);
        check.equal("witchSets(5) after it", t.witchSets(5), 15);
        check.equal("worlds(5) after it", t.worlds(5), 15 * 4 * 3);
    }

    // The lowest of all worlds of four players, and the highest.
    private static void oneWorldIsLeft() {
        WitchTrial t = new WitchTrial();
        t.start(4, 1, 1, 2);
        check.equal("witchSets(NONE) with one witch of four", t.witchSets(NONE), 4);
        t.claim(3, WitchTrial.IS_WITCH, 0);
        t.claim(3, WitchTrial.IS_SEER, 1);
        t.claim(3, WitchTrial.IS_GUARD, 2);
        check.equal("claim(2, IS_HONEST, 3)", t.claim(2, WitchTrial.IS_HONEST, 3), 1);
        isTheOnlyWorld(t, 1, 1, 2);
        t.start(4, 8, 2, 1);
        t.claim(0, WitchTrial.IS_WITCH, 3);
        t.claim(0, WitchTrial.IS_SEER, 2);
        t.claim(0, WitchTrial.IS_GUARD, 1);
        check.equal("claim(1, IS_HONEST, 0)", t.claim(1, WitchTrial.IS_HONEST, 0), 1);
        isTheOnlyWorld(t, 8, 2, 1);
    }

    private static void isTheOnlyWorld(WitchTrial t, int witches, int seer, int guard) {
        for (int viewer = NONE; viewer < 4; viewer++) {
            check.equal("worlds of one", t.worlds(viewer), 1);
            check.equal("witchSets of one world", t.witchSets(viewer), 1);
            check.equal("sureWitches of one world", t.sureWitches(viewer), witches);
            check.equal("sureHonest of one world", t.sureHonest(viewer), 15 - witches);
            check.equal("isPossible, the only world", t.isPossible(viewer, witches, seer, guard), true);
            check.equal("isPossible, another world", t.isPossible(viewer, witches, guard, seer), false);
            check.equal("worldsWith the seer of one world", t.worldsWith(viewer, seer, SEER), 1);
        }
        check.equal("bestLook() with one world", t.bestLook(), seer == 0 ? 1 : 0);
    }

    private static void theSeerKnowsWhatItSaw() {
        WitchTrial t = Check.eight();
        Check.lookAt(t, 0);
        check.equal("worlds(3) after a witch", t.worlds(3), 15 * 4);
        check.equal("sureWitches(3)", t.sureWitches(3), 1);
        check.equal("worlds(NONE) is not changed", t.worlds(NONE), 1120);
        check.equal("worlds(5) is not changed", t.worlds(5), 420);
        Check.lookAt(t, 5);
        check.equal("worlds(3) after an honest one", t.worlds(3), 10 * 4);
        check.equal("sureHonest(3)", t.sureHonest(3), 8 | 32);
        check.equal("worldsWith(3, 5, VILLAGER)", t.worldsWith(3, 5, VILLAGER), 10 * 3);
        check.equal("worldsWith(3, 5, GUARD)", t.worldsWith(3, 5, GUARD), 10);
        check.equal("witchSets(3)", t.witchSets(3), 10);
        Check.lookAt(t, 0);
        check.equal("worlds(3) after the same again", t.worlds(3), 10 * 4);
    }

    private static void theDeadKnowTheSame() {
        WitchTrial t = Check.eight();
        Check.lookAt(t, 1);
        Check.hang(t, 3);
        check.equal("sureWitches(3), the dead seer", t.sureWitches(3), 2);
        check.equal("worlds(3)", t.worlds(3), 15 * 4);
        t.endNight();
        Check.hang(t, 0);
        check.equal("sureWitches(0), a dead witch", t.sureWitches(0), 7);
        check.equal("worlds(0)", t.worlds(0), 4);
        check.equal("worlds(5)", t.worlds(5), 10 * 3);
    }

    private static void rolesOfTheDeadAreTold() {
        WitchTrial t = Check.eight();
        Check.hang(t, 4);
        check.equal("worlds(NONE) with the guard dead", t.worlds(NONE), 35 * 4);
        check.equal("worldsWith(NONE, 4, GUARD)", t.worldsWith(NONE, 4, GUARD), 140);
        check.equal("worldsWith(NONE, 4, WITCH)", t.worldsWith(NONE, 4, WITCH), 0);
        t.endNight();
        Check.hang(t, 1);
        check.equal("worlds(NONE) with a witch dead too", t.worlds(NONE), 15 * 4);
        check.equal("sureWitches(NONE)", t.sureWitches(NONE), 2);
        check.equal("witchSets(NONE)", t.witchSets(NONE), 15);
        t.endNight();
        Check.kill(t, 5);
        check.equal("worlds(NONE) with a villager dead too", t.worlds(NONE), 10 * 3);
        check.equal("sureHonest(NONE)", t.sureHonest(NONE), 16 | 32);
        check.equal("a claim after deaths", t.claim(6, WitchTrial.IS_WITCH, 0), (4 + 3) * 3);
    }

    private static void worldsWithRoles() {
        WitchTrial t = Check.six();
        check.equal("worldsWith(NONE, 0, VILLAGER)", t.worldsWith(NONE, 0, VILLAGER), 60);
        check.equal("worldsWith(NONE, 0, WITCH)", t.worldsWith(NONE, 0, WITCH), 60);
        check.equal("worldsWith(NONE, 0, SEER)", t.worldsWith(NONE, 0, SEER), 30);
        check.equal("worldsWith(NONE, 5, GUARD)", t.worldsWith(NONE, 5, GUARD), 30);
        check.equal("worldsWith(0, 0, WITCH)", t.worldsWith(0, 0, WITCH), 12);
        check.equal("worldsWith(0, 2, SEER)", t.worldsWith(0, 2, SEER), 3);
        check.equal("worldsWith(0, 2, VILLAGER)", t.worldsWith(0, 2, VILLAGER), 6);
        check.equal("worldsWith(2, 2, SEER)", t.worldsWith(2, 2, SEER), 30);
        check.equal("worldsWith(2, 2, GUARD)", t.worldsWith(2, 2, GUARD), 0);
        check.equal("worldsWith(3, 3, GUARD)", t.worldsWith(3, 3, GUARD), 30);
        check.equal("worldsWith(5, 0, WITCH)", t.worldsWith(5, 0, WITCH), 24);
        check.equal("worldsWith(5, 5, VILLAGER)", t.worldsWith(5, 5, VILLAGER), 60);
        for (int role : new int[] {-1, 4, Integer.MAX_VALUE, Integer.MIN_VALUE}) {
            check.refused(t, "worldsWith(0, 0, " + role + ")", Check.ARGUMENT, () -> t.worldsWith(0, 0, role));
            check.refused(t, "worldsWith(0, 6, " + role + ")", Check.INDEX, () -> t.worldsWith(0, 6, role));
            check.refused(t, "worldsWith(6, 0, " + role + ")", Check.INDEX, () -> t.worldsWith(6, 0, role));
        }
    }

    private static void sureSets() {
        WitchTrial t = Check.six();
        check.equal("sureWitches(NONE)", t.sureWitches(NONE), 0);
        check.equal("sureHonest(NONE)", t.sureHonest(NONE), 0);
        check.equal("sureWitches(1), a witch", t.sureWitches(1), 3);
        check.equal("sureHonest(1), a witch", t.sureHonest(1), 60);
        check.equal("sureWitches(4), a villager", t.sureWitches(4), 0);
        check.equal("sureHonest(4), a villager", t.sureHonest(4), 16);
        t.claim(0, WitchTrial.IS_WITCH, 0);
        check.equal("sureWitches(NONE) after a confession", t.sureWitches(NONE), 1);
        check.equal("sureWitches(4) after it", t.sureWitches(4), 1);
        t.claim(5, WitchTrial.IS_WITCH, 1);
        check.equal("sureHonest(NONE)", t.sureHonest(NONE), 4 | 8 | 16);
        t.claim(4, WitchTrial.IS_HONEST, 5);
        check.equal("sureWitches(NONE) at last", t.sureWitches(NONE), 3);
        check.equal("sureHonest(NONE) at last", t.sureHonest(NONE), 60);
        check.equal("witchSets(NONE) at last", t.witchSets(NONE), 1);
        WitchTrial u = Check.eight();
        check.equal("sureHonest(0) of eight, a witch", u.sureHonest(0), 248);
        u.start(8, 224, 0, 1);
        check.equal("sureHonest(0) of eight, the seer", u.sureHonest(0), 1);
        check.equal("sureWitches(7) of eight, a witch", u.sureWitches(7), 224);
    }

    private static void suspects() {
        WitchTrial t = Check.six();
        check.equal("suspect(NONE), all alike", t.suspect(NONE), 0);
        check.equal("suspect(0), not itself", t.suspect(0), 1);
        check.equal("suspect(1)", t.suspect(1), 0);
        check.equal("suspect(5)", t.suspect(5), 0);
        t.claim(5, WitchTrial.IS_WITCH, 1);
        check.equal("suspect(NONE) after a claim", t.suspect(NONE), 1);
        check.equal("suspect(4)", t.suspect(4), 1);
        Check.hang(t, 1);
        check.equal("suspect(NONE) with that one dead", t.suspect(NONE), 0);
        t.endNight();
        Check.hang(t, 0);
        check.equal("suspect(NONE) with no witch alive", t.suspect(NONE), 2);
        check.equal("suspect(2) with no witch alive", t.suspect(2), 3);
        check.equal("suspect(0), who is dead", t.suspect(0), 2);
        WitchTrial u = Check.eight();
        u.claim(5, WitchTrial.IS_HONEST, 6);
        check.equal("suspect(5): an honest one is less likely", u.suspect(5), 0);
        check.equal("suspect(NONE): who claims in their favour is not", u.suspect(NONE), 5);
    }

    private static void bestLooks() {
        WitchTrial t = Check.eight();
        check.equal("bestLook(), all alike", t.bestLook(), 0);
        Check.lookAt(t, 0);
        check.equal("bestLook() after 0", t.bestLook(), 1);
        Check.lookAt(t, 5);
        check.equal("bestLook() after 5", t.bestLook(), 1);
        Check.kill(t, 3);
        check.equal("bestLook() with the seer dead", t.bestLook(), 1);
        WitchTrial u = new WitchTrial();
        u.start(4, 8, 0, 1);
        check.equal("bestLook() is not the seer", u.bestLook(), 1);
        WitchTrial v = new WitchTrial();
        v.start(8, 192, 0, 1);
        v.claim(0, WitchTrial.IS_HONEST, 1);
        check.equal("bestLook() leaves one who is surely honest", v.bestLook(), 2);
        v.claimAmong(0, 64 | 32);
        check.equal("bestLook() parts most evenly", v.bestLook(), 5);
        Check.hang(v, 5);
        check.equal("bestLook() is not the dead", v.bestLook(), 2);
        v.endNight();
        Check.hang(v, 6);
        v.endNight();
        Check.hang(v, 7);
        check.equal("bestLook() with all known", v.bestLook(), 1);
    }

    private static void possibleWorlds() {
        WitchTrial t = Check.six();
        check.equal("the true world", t.isPossible(NONE, 3, 2, 3), true);
        check.equal("another one", t.isPossible(NONE, 48, 0, 1), true);
        check.equal("the seer is a witch", t.isPossible(NONE, 3, 0, 2), false);
        check.equal("the guard is a witch", t.isPossible(NONE, 3, 2, 1), false);
        check.equal("one is seer and guard", t.isPossible(NONE, 3, 2, 2), false);
        check.equal("too many witches", t.isPossible(NONE, 7, 3, 4), false);
        check.equal("too few witches", t.isPossible(NONE, 1, 3, 4), false);
        check.equal("no witches", t.isPossible(NONE, 0, 3, 4), false);
        for (int set : new int[] {65, 192, 3 | 1 << 10, 3 | 1 << 19, 3 | 1 << 30, -1, Integer.MIN_VALUE | 3}) {
            check.equal("witches " + set, t.isPossible(NONE, set, 2, 3), false);
        }
        check.equal("a witch knows the witches", t.isPossible(0, 3, 4, 5), true);
        check.equal("and no others", t.isPossible(0, 5, 3, 4), false);
        check.equal("the seer knows itself", t.isPossible(2, 48, 2, 0), true);
        check.equal("and no other seer", t.isPossible(2, 48, 0, 3), false);
        check.equal("a villager knows it is none", t.isPossible(5, 3, 4, 5), false);
        t.claim(5, WitchTrial.IS_WITCH, 0);
        check.equal("what agrees with a claim", t.isPossible(NONE, 1 | 16, 2, 3), true);
        check.equal("what does not", t.isPossible(NONE, 2 | 16, 3, 5), false);
        check.equal("if the claimer is a witch", t.isPossible(NONE, 2 | 32, 3, 4), true);
        Check.lookAt(t, 4);
        check.equal("what the seer has seen", t.isPossible(2, 1 | 16, 2, 3), false);
        check.equal("and nobody else", t.isPossible(3, 1 | 16, 2, 3), true);
        Check.hang(t, 4);
        check.equal("the role of a dead one", t.isPossible(NONE, 1 | 16, 2, 3), false);
        check.equal("whatever role", t.isPossible(NONE, 1 | 2, 2, 4), false);
        check.equal("with the same role", t.isPossible(NONE, 1 | 32, 2, 3), true);
    }

    private static void noSuchPlayer() {
        for (int p : new int[] {-2, -33, 6, 7, 8, 31, 32, 64, Integer.MAX_VALUE, Integer.MIN_VALUE}) {
            WitchTrial t = Check.six();
            String told = "(" + p + ")";
            check.refused(t, "worlds" + told, Check.INDEX, () -> t.worlds(p));
            check.refused(t, "sureWitches" + told, Check.INDEX, () -> t.sureWitches(p));
            check.refused(t, "sureHonest" + told, Check.INDEX, () -> t.sureHonest(p));
            check.refused(t, "witchSets" + told, Check.INDEX, () -> t.witchSets(p));
            check.refused(t, "suspect" + told, Check.INDEX, () -> t.suspect(p));
            check.refused(t, "isPossible of viewer" + told, Check.INDEX, () -> t.isPossible(p, 3, 2, 3));
        }
        for (int p : Check.NO_PLAYERS) {
            WitchTrial t = Check.six();
            check.refused(t, "worldsWith player " + p, Check.INDEX, () -> t.worldsWith(NONE, p, 0));
            check.refused(t, "isPossible of seer " + p, Check.INDEX, () -> t.isPossible(NONE, 3, p, 3));
            check.refused(t, "isPossible of guard " + p, Check.INDEX, () -> t.isPossible(NONE, 3, 2, p));
            check.refused(t, "isPossible of no world, " + p, Check.INDEX, () -> t.isPossible(NONE, -1, p, 3));
        }
    }
}
