import java.util.Random;
import java.util.TreeMap;

/** Random runs of some 500 calls, each answer compared with the one of PlainModel; the seeds are fixed. */
public final class ModelRunsTest {
    private static final int RUNS = 4000;
    /** Some steps make several calls; an object is used for 512 of them. */
    private static final int CALLS = 500;

    private final Random random;
    private final int size;
    private final ScarredLog log;
    private final PlainModel model;
    private final StringBuilder told = new StringBuilder();
    private static final TreeMap<String, Integer> SEEN = new TreeMap<>();
    private int leader;
    private int calls;
    private final int harm;

    private ModelRunsTest(long seed) {
        random = new Random(seed);
        size = random.nextBoolean() ? 3 : 5;
        harm = new int[] {0, 1, 4, 12}[random.nextInt(4)];
        log = new ScarredLog(size);
        model = new PlainModel(size);
    }

    public static void main(String[] args) {
        for (int run = 0; run < RUNS; run++) {
            if (!new ModelRunsTest(run).run()) {
                System.out.println("(in the run of seed " + run + ")");
                break;
            }
        }
        everyAnswerWasSeen();
        Due.end();
    }

    private boolean run() {
        for (int key = random.nextInt(4); key < 4; key++) {
            int v = 1 + random.nextInt(100);
            due("ask", log.ask(key, v), model.ask(key, v), key, v);
            due("ask", log.ask(0, -v), model.ask(0, -v), 0, -v);
        }
        while (calls < CALLS) {
            if (!step()) {
                System.out.println(told);
                return false;
            }
        }
        return true;
    }

    private int node() {
        return random.nextInt(40) == 0 ? random.nextInt(9) - 2 : random.nextInt(size);
    }

    /** Mostly the one that led last, so that terms come to something. */
    private int head() {
        return random.nextInt(5) == 0 ? node() : leader;
    }

    private int place() {
        return random.nextInt(40) == 0 ? random.nextInt(13) - 2 : 1 + random.nextInt(random.nextInt(3) == 0 ? 8 : 3);
    }

    private int request() {
        return random.nextInt(30) == 0 ? random.nextInt(36) - 2 : 1 + random.nextInt(8);
    }

    private int sector() {
        // Seldom the promises, as a mute node stays so for good.
        int lowest = random.nextInt(5) == 0 ? 0 : 2;
        int most = random.nextInt(3) == 0 ? 18 : 8;
        return random.nextInt(40) == 0 ? random.nextInt(24) - 3 : lowest + random.nextInt(most - lowest);
    }

    private boolean step() {
        int pick = random.nextInt(100);
        if (pick < 4) {
            int key = random.nextInt(6) - 1;
            int v = random.nextInt(5) == 0 ? random.nextInt() : random.nextInt(100);
            return due("ask", log.ask(key, v), model.ask(key, v), key, v);
        }
        if (pick < 8) {
            return random.nextInt(3) == 0 ? leadOnce(node()) : termStep();
        }
        if (pick < 18) {
            return promiseOnce(head(), node());
        }
        if (pick < 22) {
            return routeOnce(request(), head());
        }
        if (pick < 28) {
            return voteOnce(head(), node(), place());
        }
        if (pick < 40) {
            return driveStep();
        }
        if (pick < 44) {
            int n = head();
            int m = node();
            return due("tell", log.tell(n, m), model.tell(n, m), n, m);
        }
        if (pick < 49) {
            return mendStep();
        }
        if (pick < 54) {
            int n = node();
            return due("restart", bit(log.restart(n)), bit(model.restart(n)), n);
        }
        return pick < 70 && random.nextInt(12) < harm ? harmStep(pick) : sightStep();
    }

    private boolean leadOnce(int n) {
        return due("lead", log.lead(n), model.lead(n), n);
    }

    private boolean promiseOnce(int n, int a) {
        return due("promise", log.promise(n, a), model.promise(n, a), n, a);
    }

    private boolean routeOnce(int q, int n) {
        return due("route", log.route(q, n), model.route(q, n), q, n);
    }

    private boolean voteOnce(int n, int a, int s) {
        return due("vote", log.vote(n, a, s), model.vote(n, a, s), n, a, s);
    }

    /** A new leader, with the promises of most nodes. */
    private boolean termStep() {
        leader = random.nextInt(size);
        int n = leader;
        boolean fine = leadOnce(n);
        // Twice as a leader behind the others is only ahead of them after more terms.
        fine = fine && (random.nextBoolean() || leadOnce(n));
        for (int a = 0; a < size; a++) {
            fine = fine && (random.nextInt(5) == 0 || promiseOnce(n, a));
        }
        return fine;
    }

    /** A request is given to the leader, and most nodes vote for its slot. */
    private boolean driveStep() {
        int n = leader;
        int q = request();
        int s = model.route(q, n);
        boolean fine = due("route", log.route(q, n), s, q, n);
        if (s < 1 || s > 8) {
            s = place();
        }
        for (int a = 0; a < size; a++) {
            fine = fine && (random.nextInt(5) == 0 || voteOnce(n, a, s));
        }
        return fine && routeOnce(q, n);
    }

    /** Mostly of a slot that is damaged, if the first node looked at has one, and at times with a fall. */
    private boolean mendStep() {
        int n = node();
        int a = node();
        int s = place();
        for (int t = 1; t <= 8 && random.nextInt(8) != 0; t++) {
            s = model.slot(n, t) < -1 ? t : s;
        }
        int k = random.nextInt(2);
        if (random.nextInt(4) == 0 && !due("arm", bit(log.arm(n, k)), bit(model.arm(n, k)), n, k)) {
            return false;
        }
        return due("mend", log.mend(n, a, s), model.mend(n, a, s), n, a, s);
    }

    private boolean harmStep(int pick) {
        int n = node();
        if (pick < 58) {
            return due("crash", bit(log.crash(n)), bit(model.crash(n)), n);
        }
        if (pick < 61) {
            int k = random.nextInt(5) == 0 ? random.nextInt(46) - 3 : random.nextInt(5);
            return due("arm", bit(log.arm(n, k)), bit(model.arm(n, k)), n, k);
        }
        int sector = sector();
        if (pick < 65) {
            int b = random.nextInt(20) == 0 ? random.nextInt(72) - 4 : random.nextInt(64);
            return due("flip", bit(log.flip(n, sector, b)), bit(model.flip(n, sector, b)), n, sector, b);
        }
        return due("wipe", bit(log.wipe(n, sector)), bit(model.wipe(n, sector)), n, sector);
    }

    private boolean sightStep() {
        int n = node();
        int s = place();
        switch (random.nextInt(7)) {
            case 0:
                int what = random.nextInt(9) - 1;
                return due("look", log.look(n, what), model.look(n, what), n, what);
            case 1:
                return due("slot", log.slot(n, s), model.slot(n, s), n, s);
            case 2:
                int h = head();
                return due("plan", log.plan(h, s), model.plan(h, s), h, s);
            case 3:
                return due("chosen", log.chosen(n, s), model.chosen(n, s), n, s);
            case 4:
                int key = random.nextInt(6) - 1;
                return due("value", log.value(n, key), model.value(n, key), n, key);
            case 5:
                int i = random.nextInt(152) - 4;
                return due("octet", log.octet(n, i), model.octet(n, i), n, i);
            default:
                int q = request();
                boolean count = random.nextBoolean();
                return due("reply", log.reply(q, count), model.reply(q, count), q, bit(count));
        }
    }

    private static int bit(boolean b) {
        return b ? 1 : 0;
    }

    private boolean due(String name, int got, int want, int... args) {
        StringBuilder call = new StringBuilder(name).append('(');
        for (int i = 0; i < args.length; i++) {
            call.append(i == 0 ? "" : ", ").append(args[i]);
        }
        call.append(')');
        calls++;
        told.append(call).append(" = ").append(got).append('\n');
        Due.is(call.toString(), got, want);
        SEEN.merge(name + " " + (want > 0 && !name.equals("vote") ? "+" : want < -9 ? "-" : "" + want), 1, Integer::sum);
        return got == want;
    }

    /** The runs are worth little if they do not come by the rare answers. */
    private static void everyAnswerWasSeen() {
        String[] wanted = {"ask -1", "ask +", "lead -1", "lead 0", "lead -4", "lead +",
            "promise -1", "promise 0", "promise -2", "promise -3", "promise -4", "promise +",
            "route -1", "route 0", "route -2", "route +",
            "vote -1", "vote 0", "vote -2", "vote -3", "vote -4", "vote -5", "vote 1", "vote 2",
            "tell -1", "tell -2", "tell 0", "tell +", "mend -1", "mend 0", "mend -4", "mend +",
            "plan -1", "plan -2", "plan -3", "plan 0", "plan +", "slot -", "slot -1", "slot 0", "slot +",
            "chosen -1", "chosen 0", "chosen +", "value +", "octet -1", "reply +"};
        for (String answer : wanted) {
            Due.yes(answer + " was seen ten times", SEEN.getOrDefault(answer, 0) >= 10);
        }
    }
}
