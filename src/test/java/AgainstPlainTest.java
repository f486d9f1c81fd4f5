import java.util.Random;

/** Long runs of calls, right and wrong ones, each answered as PlainTrial answers it. */
public final class AgainstPlainTest {
    private static final int RUNS = 600;
    private static final int CALLS = 512;
    private static final Check check = new Check("AgainstPlainTest");

    private final Random random;
    private final int run;
    private final WitchTrial trial = new WitchTrial();
    private final PlainTrial plain = new PlainTrial();
    private int players = 4;
    private int truth;

    private AgainstPlainTest(int run) {
        this.run = run;
        this.random = new Random(run);
    }

    public static void main(String[] args) {
        for (int run = 1; run <= RUNS; run++) {
            new AgainstPlainTest(run).go();
        }
        check.finish();
    }

    private void go() {
        if (run % 10 != 0) {
            start();
        }
        for (int call = 1; call < CALLS; call++) {
            int kind = random.nextInt(100);
            if (kind < 1) {
                start();
            } else if (kind < 3) {
                wrongStart();
            } else if (kind < 50) {
                play();
            } else {
                ask();
            }
        }
    }

    private void start() {
        players = 4 + random.nextInt(5);
        int most = (players - 1) / 2;
        int witches = 0;
        for (int left = 1 + random.nextInt(most); left > 0; left--) {
            witches |= 1 << random.nextInt(players);
        }
        int seer = honest(witches);
        int guard = honest(witches | 1 << seer);
        truth = witches;
        start(players, witches, seer, guard);
    }

    private int honest(int others) {
        int player = random.nextInt(players);
        while ((others >> player & 1) == 1) {
            player = (player + 1) % players;
        }
        return player;
    }

    // Mostly wrong; where it happens to be right, the true witches are no longer known here.
    private void wrongStart() {
        int n = random.nextInt(12);
        start(n, random.nextInt(600) - 20, random.nextInt(11) - 1, random.nextInt(11) - 1);
    }

    private void start(int n, int witches, int seer, int guard) {
        same("start(" + n + ", " + witches + ", " + seer + ", " + guard + ")",
                () -> trial.start(n, witches, seer, guard), () -> plain.start(n, witches, seer, guard));
    }

    private void play() {
        int a = player();
        int b = player();
        switch (random.nextInt(14)) {
            case 0, 1, 2 -> {
                int kind = random.nextInt(20) == 0 ? random.nextInt(9) - 4 : random.nextInt(4);
                same("claim(" + a + ", " + kind + ", " + b + ")",
                        () -> trial.claim(a, kind, b), () -> plain.claim(a, kind, b));
            }
            case 3 -> {
                int set = set();
                same("claimAmong(" + a + ", " + set + ")",
                        () -> trial.claimAmong(a, set), () -> plain.claimAmong(a, set));
            }
            case 4, 5, 6, 7 ->
                same("vote(" + a + ", " + b + ")", () -> trial.vote(a, b), () -> plain.vote(a, b));
            case 8 -> same("closeVote()", trial::closeVote, plain::closeVote);
            case 9 -> same("protect(" + a + ")", () -> trial.protect(a), () -> plain.protect(a));
            case 10 -> same("attack(" + a + ")", () -> trial.attack(a), () -> plain.attack(a));
            case 11, 12 -> same("look(" + a + ")", () -> trial.look(a), () -> plain.look(a));
            default -> same("endNight()", trial::endNight, plain::endNight);
        }
    }

    private void ask() {
        int viewer = random.nextInt(4) == 0 ? WitchTrial.NONE : player();
        int a = player();
        int b = player();
        switch (random.nextInt(13)) {
            case 0 -> same("phase()", trial::phase, plain::phase);
            case 1 -> same("day()", trial::day, plain::day);
            case 2 -> same("alive()", trial::alive, plain::alive);
            case 3 -> same("votesFor(" + a + ")", () -> trial.votesFor(a), () -> plain.votesFor(a));
            case 4 -> same("lookedAt()", trial::lookedAt, plain::lookedAt);
            case 5 -> same("worlds(" + viewer + ")", () -> trial.worlds(viewer), () -> plain.worlds(viewer));
            case 6 -> {
                int role = random.nextInt(20) == 0 ? random.nextInt(9) - 4 : random.nextInt(4);
                same("worldsWith(" + viewer + ", " + a + ", " + role + ")",
                        () -> trial.worldsWith(viewer, a, role), () -> plain.worldsWith(viewer, a, role));
            }
            case 7 -> same("sureWitches(" + viewer + ")",
                    () -> trial.sureWitches(viewer), () -> plain.sureWitches(viewer));
            case 8 -> same("sureHonest(" + viewer + ")",
                    () -> trial.sureHonest(viewer), () -> plain.sureHonest(viewer));
            case 9 -> same("witchSets(" + viewer + ")",
                    () -> trial.witchSets(viewer), () -> plain.witchSets(viewer));
            case 10 -> same("suspect(" + viewer + ")", () -> trial.suspect(viewer), () -> plain.suspect(viewer));
            case 11 -> same("bestLook()", trial::bestLook, plain::bestLook);
            default -> {
                int witches = random.nextBoolean() ? truth : set();
                same("isPossible(" + viewer + ", " + witches + ", " + a + ", " + b + ")",
                        () -> trial.isPossible(viewer, witches, a, b), () -> plain.isPossible(viewer, witches, a, b));
            }
        }
    }

    private int player() {
        int kind = random.nextInt(60);
        if (kind == 0) {
            return random.nextInt();
        }
        return kind < 3 ? random.nextInt(13) - 2 : random.nextInt(players);
    }

    private int set() {
        int kind = random.nextInt(30);
        return kind == 0 ? random.nextInt() : kind == 1 ? random.nextInt(600) - 20 : random.nextInt(1 << players);
    }

    private void same(String what, Check.Call got, Check.Call due) {
        check.equal("run " + run + ": " + what, Check.outcome(got), Check.outcome(due));
    }
}
