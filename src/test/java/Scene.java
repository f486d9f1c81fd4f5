import java.util.List;

/** A position of a game, made anew from a new object as often as it is asked for, and its facts. */
final class Scene {
    interface Play {
        void on(WitchTrial trial);
    }

    private static final int NONE = WitchTrial.NONE;

    static final Scene NO_GAME = new Scene("without a game", 0, 0, NONE, NONE, WitchTrial.NO_GAME, 0, NONE, t -> { });

    static final Scene FOUR = new Scene("four by day", 4, 1, 1, 2, WitchTrial.DAY, 15, NONE, t -> t.start(4, 1, 1, 2));

    /** Witches 0 and 1, seer 2, guard 3, villagers 4 and 5. */
    static final Scene SIX = new Scene("six by day", 6, 3, 2, 3, WitchTrial.DAY, 63, NONE, t -> t.start(6, 3, 2, 3));

    /** Witches 0, 1 and 2, seer 3, guard 4, villagers 5, 6 and 7; a claim and some votes are made. */
    static final Scene EIGHT = new Scene("eight by day", 8, 7, 3, 4, WitchTrial.DAY, 255, NONE, t -> {
        t.start(8, 7, 3, 4);
        t.claim(5, WitchTrial.IS_WITCH, 0);
        t.vote(0, 5);
        t.vote(1, 5);
        t.vote(5, 0);
        t.vote(7, 7);
    });

    /** Witches 0 and 7, seer 3, guard 4; 6 is hanged, 2 killed, 0 looked at, 5 protected. */
    static final Scene SECOND_DAY = new Scene("eight on the day 2", 8, 129, 3, 4, WitchTrial.DAY, 187, 5, t -> {
        playToSecondDay(t);
        t.vote(1, 0);
        t.vote(3, 0);
        t.vote(5, 4);
    });

    static final Scene WITCH_DEAD = new Scene("six by day, a witch dead", 6, 3, 2, 3, WitchTrial.DAY, 62, NONE, t -> {
        t.start(6, 3, 2, 3);
        Check.hang(t, 0);
        t.endNight();
    });

    static final Scene FIRST_NIGHT = new Scene("six by night", 6, 3, 2, 3, WitchTrial.NIGHT, 63, NONE, t -> {
        t.start(6, 3, 2, 3);
        t.closeVote();
    });

    static final Scene SECOND_NIGHT = new Scene("eight in the night 2", 8, 129, 3, 4, WitchTrial.NIGHT, 187, 5, t -> {
        playToSecondDay(t);
        t.closeVote();
        t.protect(3);
        t.attack(5);
        t.look(7);
    });

    static final Scene GUARD_DEAD = new Scene("by night, the guard dead", 8, 7, 3, 4, WitchTrial.NIGHT, 239, NONE, t -> {
        t.start(8, 7, 3, 4);
        Check.hang(t, 4);
        t.attack(5);
        t.look(0);
    });

    static final Scene SEER_DEAD = new Scene("by night, the seer dead", 8, 7, 3, 4, WitchTrial.NIGHT, 247, NONE, t -> {
        t.start(8, 7, 3, 4);
        Check.hang(t, 3);
        t.protect(6);
        t.attack(7);
    });

    static final Scene BOTH_DEAD = new Scene("by night, guard and seer dead", 8, 1, 3, 4, WitchTrial.NIGHT, 231, 5, t -> {
        t.start(8, 1, 3, 4);
        Check.hang(t, 3);
        t.protect(5);
        t.endNight();
        Check.hang(t, 4);
        t.attack(6);
    });

    static final Scene VILLAGE_WON = new Scene("the village has won", 6, 3, 2, 3, WitchTrial.VILLAGE_WON, 28, NONE, t -> {
        t.start(6, 3, 2, 3);
        Check.hang(t, 0);
        t.look(1);
        t.attack(5);
        t.endNight();
        Check.hang(t, 1);
    });

    static final Scene WON_BY_VOTE = new Scene("the witches have won by a vote", 5, 3, 2, 3, WitchTrial.WITCHES_WON, 15,
            NONE, t -> {
                t.start(5, 3, 2, 3);
                Check.hang(t, 4);
            });

    static final Scene WON_BY_ATTACK = new Scene("the witches have won by an attack", 6, 3, 2, 3, WitchTrial.WITCHES_WON,
            15, 2, t -> {
                t.start(6, 3, 2, 3);
                Check.hang(t, 5);
                t.protect(2);
                t.look(0);
                t.attack(4);
                t.endNight();
            });

    static final Scene SMALLER_GAME = new Scene("five in place of eight", 5, 24, 0, 2, WitchTrial.DAY, 31, NONE, t -> {
        playToSecondDay(t);
        t.vote(7, 7);
        t.start(5, 24, 0, 2);
        t.vote(4, 3);
    });

    static final Scene SEVEN_NIGHT = new Scene("seven in the night 2", 7, 112, 1, 0, WitchTrial.NIGHT, 127, 6, t -> {
        t.start(7, 112, 1, 0);
        t.closeVote();
        t.protect(6);
        t.look(0);
        t.endNight();
        t.closeVote();
        t.look(6);
    });

    static final List<Scene> ALL = List.of(NO_GAME, FOUR, SIX, EIGHT, SECOND_DAY, WITCH_DEAD, FIRST_NIGHT, SECOND_NIGHT,
            GUARD_DEAD, SEER_DEAD, BOTH_DEAD, VILLAGE_WON, WON_BY_VOTE, WON_BY_ATTACK, SMALLER_GAME, SEVEN_NIGHT);

    static final List<Scene> OVER = List.of(VILLAGE_WON, WON_BY_VOTE, WON_BY_ATTACK);

    final String name;
    final int players;
    final int witches;
    final int seer;
    final int guard;
    final int phase;
    final int alive;
    final int protectedBefore;
    private final Play play;
    private List<Object> view;
    private List<Object> farewell;

    private Scene(String name, int players, int witches, int seer, int guard, int phase, int alive,
            int protectedBefore, Play play) {
        this.name = name;
        this.players = players;
        this.witches = witches;
        this.seer = seer;
        this.guard = guard;
        this.phase = phase;
        this.alive = alive;
        this.protectedBefore = protectedBefore;
        this.play = play;
    }

    WitchTrial make() {
        WitchTrial trial = new WitchTrial();
        play.on(trial);
        return trial;
    }

    /** What is seen of it when no call has been refused. */
    List<Object> view() {
        if (view == null) {
            view = Check.seen(make());
        }
        return view;
    }

    /** What comes of it when no call has been refused. */
    List<Object> farewell() {
        if (farewell == null) {
            farewell = Check.farewell(make());
        }
        return farewell;
    }

    boolean hasPlayer(int player) {
        return player >= 0 && player < players;
    }

    boolean lives(int player) {
        return (alive >> player & 1) == 1;
    }

    boolean hasWitch(int player) {
        return (witches >> player & 1) == 1;
    }

    private static void playToSecondDay(WitchTrial t) {
        t.start(8, 129, 3, 4);
        t.claim(6, WitchTrial.IS_HONEST, 5);
        Check.hang(t, 6);
        t.protect(5);
        t.look(0);
        t.attack(2);
        t.endNight();
    }
}
