import java.util.ArrayList;
import java.util.List;

/** Counts the answers of one test that are not as due, and prints each. */
final class Check {
    static final Class<? extends Exception> STATE = IllegalStateException.class;
    static final Class<? extends Exception> INDEX = IndexOutOfBoundsException.class;
    static final Class<? extends Exception> ARGUMENT = IllegalArgumentException.class;
    static final Class<? extends Exception> ELEMENT = java.util.NoSuchElementException.class;

    /** Numbers that are no player of any game. */
    static final int[] NO_PLAYERS = {-1, -2, 8, 9, 31, 32, 33, 64, Integer.MAX_VALUE, Integer.MIN_VALUE};

    interface Call {
        Object answer();
    }

    interface Ask {
        Object of(WitchTrial trial);
    }

    private final String name;
    private String sentence = "";
    private int sentences;
    private int asked;
    private int wrong;

    Check(String name) {
        this.name = name;
    }

    void equal(String what, Object got, Object due) {
        asked++;
        if (!due.equals(got)) {
            wrong++;
            System.out.println(name + ": " + sentence + what + " answered " + got + ", due is " + due);
        }
    }

    /** Names the sentence of the document that the next answers are about. */
    void sentence(String text) {
        sentences++;
        sentence = text + ": ";
        System.out.println("  " + text);
    }

    /** In the scene the call answers this. */
    void answers(Scene scene, String what, Object due, Ask call) {
        WitchTrial trial = scene.make();
        equal(what + ", " + scene.name, outcome(() -> call.of(trial)), due);
    }

    /**
     * In the scene the call throws just this, and afterwards all is as in the same scene without
     * the call: what can be seen, and what was chosen and can only be seen by playing on.
     */
    void refuses(Scene scene, String what, Class<? extends Exception> due, Ask call) {
        String where = what + ", " + scene.name;
        WitchTrial seen = scene.make();
        equal(where, outcome(() -> call.of(seen)), due.getName());
        equal("what is seen after " + where, seen(seen), scene.view());
        WitchTrial left = scene.make();
        equal(where, outcome(() -> call.of(left)), due.getName());
        equal("what comes after " + where, farewell(left), scene.farewell());
    }

    /** The call throws just this, and at a glance nothing changes; RefusalTest looks at all there is. */
    void refused(WitchTrial trial, String what, Class<? extends Exception> due, Call call) {
        List<Object> before = glance(trial);
        equal(what, outcome(call), due.getName());
        equal("a glance after " + what, glance(trial), before);
    }

    void finish() {
        String told = sentences == 0 ? "" : sentences + " sentences, ";
        System.out.println(name + ": " + told + asked + " answers, " + wrong + " not as due");
        if (wrong != 0) {
            System.exit(1);
        }
    }

    /** The answer, or the name of the exception. */
    static Object outcome(Call call) {
        try {
            return call.answer();
        } catch (RuntimeException e) {
            return e.getClass().getName();
        }
    }

    // An object is good for 512 calls: a glance takes four of them, a look at all takes 385.
    private static List<Object> glance(WitchTrial trial) {
        return List.of(trial.phase(), outcome(trial::day), outcome(trial::alive),
                outcome(() -> trial.worlds(WitchTrial.NONE)));
    }

    /** All that the object tells without being changed, for the players 0 to 8 and for NONE. */
    static List<Object> seen(WitchTrial trial) {
        List<Object> seen = new ArrayList<>();
        seen.add(trial.phase());
        seen.add(outcome(trial::day));
        seen.add(outcome(trial::alive));
        seen.add(outcome(trial::lookedAt));
        seen.add(outcome(trial::bestLook));
        for (int p = WitchTrial.NONE; p <= 8; p++) {
            int viewer = p;
            seen.add(outcome(() -> trial.votesFor(viewer)));
            seen.add(outcome(() -> trial.worlds(viewer)));
            seen.add(outcome(() -> trial.sureWitches(viewer)));
            seen.add(outcome(() -> trial.sureHonest(viewer)));
            seen.add(outcome(() -> trial.witchSets(viewer)));
            seen.add(outcome(() -> trial.suspect(viewer)));
            for (int other = 0; other < 8; other++) {
                for (int role = 0; role < 4; role++) {
                    int player = other;
                    int its = role;
                    seen.add(outcome(() -> trial.worldsWith(viewer, player, its)));
                }
            }
        }
        return seen;
    }

    /**
     * Plays the object on, so that it shows what it otherwise does not tell: who voted for whom (by
     * votes that change), whom the guard protected in the night before, and the night's choices.
     */
    static List<Object> farewell(WitchTrial trial) {
        List<Object> told = new ArrayList<>();
        for (int p = 0; p < 8; p++) {
            int player = p;
            told.add(outcome(() -> trial.vote(player, player)));
            for (int q = 0; q < 8; q++) {
                int other = q;
                told.add(outcome(() -> trial.votesFor(other)));
            }
        }
        told.add(outcome(trial::closeVote));
        for (int p = 0; p < 8; p++) {
            int player = p;
            told.add(outcome(() -> trial.protect(player)));
            told.add(outcome(() -> trial.attack(player)));
            told.add(outcome(() -> trial.look(player)));
        }
        told.add(outcome(trial::endNight));
        told.add(trial.phase());
        told.add(outcome(trial::day));
        told.add(outcome(trial::alive));
        told.add(outcome(trial::lookedAt));
        return told;
    }

    /** How many worlds a game has at its beginning. */
    static int worlds(int players, int witches) {
        int sets = 1;
        for (int i = 0; i < witches; i++) {
            sets = sets * (players - i) / (i + 1);
        }
        return sets * (players - witches) * (players - witches - 1);
    }

    /** A game of six: witches 0 and 1, seer 2, guard 3, villagers 4 and 5. */
    static WitchTrial six() {
        WitchTrial trial = new WitchTrial();
        trial.start(6, 3, 2, 3);
        return trial;
    }

    /** A game of eight: witches 0, 1 and 2, seer 3, guard 4, villagers 5, 6 and 7. */
    static WitchTrial eight() {
        WitchTrial trial = new WitchTrial();
        trial.start(8, 7, 3, 4);
        return trial;
    }

    /** By day: lets the player be hanged by its own vote. */
    static void hang(WitchTrial trial, int player) {
        trial.vote(player, player);
        trial.closeVote();
    }

    /** By day: goes on to the next day, nobody hanged and the player killed at night. */
    static void kill(WitchTrial trial, int player) {
        trial.closeVote();
        trial.attack(player);
        trial.endNight();
    }

    /** By day: goes on to the next day, the seer having looked at the player. */
    static void lookAt(WitchTrial trial, int player) {
        trial.closeVote();
        trial.look(player);
        trial.endNight();
    }

    /** By day: goes on to the next day, the guard having protected the player. */
    static void guard(WitchTrial trial, int player) {
        trial.closeVote();
        trial.protect(player);
        trial.endNight();
    }
}
