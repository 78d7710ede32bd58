import java.util.Random;

/**
 * "A call that answers 0 or less, or false, changes nothing, but a call in which a node goes down: then what was
 * written before that stays (and what the others wrote)."
 *
 * The first half is tried with every kind of call in many states: two objects are brought to the same state, one of
 * them is given the refused call, and then both must answer alike, whatever is asked of them. What can't be seen at
 * once (assigned, fixed, voters, told) shows in the calls that follow.
 */
public final class EdgesUnchangedTest {
    private static final String[] NAMES = {"ask", "lead", "promise", "route", "vote", "tell", "mend", "crash", "restart",
        "arm", "flip", "wipe", "look", "slot", "plan", "chosen", "value", "octet", "reply"};
    private static final int[] REFUSED = new int[NAMES.length];
    private static final int STATES = 60;
    private static final int CALLS_TRIED = 250;
    private static final int FUTURES = 4;
    /** Together with what leads to a state and what is seen of a node, this keeps to 512 calls an object. */
    private static final int MOST_BEFORE = 200;
    private static final int CALLS_BEHIND = 300;

    public static void main(String[] args) {
        Due.sentence("A call that answers 0 or less, or false, changes nothing", EdgesUnchangedTest::changesNothing);
        Due.sentence("changes nothing: each kind of call was refused", EdgesUnchangedTest::eachKindWasRefused);
        Due.sentence("but a call in which a node goes down: then what was written before that stays: lead",
            EdgesUnchangedTest::leadGoesDown);
        Due.sentence("but a call in which a node goes down: promise", EdgesUnchangedTest::promiseGoesDown);
        Due.sentence("but a call in which a node goes down: vote", EdgesUnchangedTest::voteGoesDown);
        Due.sentence("but a call in which a node goes down: mend", EdgesUnchangedTest::mendGoesDown);
        Due.sentence("(and what the others wrote)", EdgesUnchangedTest::othersStay);
        Due.end();
    }

    private static void changesNothing() {
        for (int state = 0; state < STATES; state++) {
            long[] plain = new long[5 + FUTURES];
            for (int f = 0; f < plain.length; f++) {
                plain[f] = future(stateOf(state), f, state);
            }
            Random random = new Random(1000 + state);
            for (int i = 0; i < CALLS_TRIED; i++) {
                tryCall(state, plain, random.nextInt(NAMES.length), random.nextLong());
            }
        }
    }

    private static void tryCall(int state, long[] plain, int kind, long seed) {
        long answer = call(stateOf(state), kind, new Random(seed));
        if (answer > 0 || answer == -4) {
            return;
        }
        REFUSED[kind]++;
        for (int f = 0; f < plain.length; f++) {
            ScarredLog x = stateOf(state);
            call(x, kind, new Random(seed));
            Due.is(NAMES[kind] + " (seed " + seed + ") changed nothing in state " + state + ", future " + f,
                future(x, f, state), plain[f]);
        }
    }

    private static void eachKindWasRefused() {
        for (int kind = 0; kind < NAMES.length; kind++) {
            Due.yes(NAMES[kind] + " was refused, or answered 0, twenty times", REFUSED[kind] >= 20);
        }
    }

    /** Each state is what a run of its own leads to; the same number gives the same state again. */
    private static ScarredLog stateOf(int state) {
        Random random = new Random(state);
        ScarredLog x = new ScarredLog(state % 3 == 0 ? 5 : 3);
        int calls = 0;
        while (calls < MOST_BEFORE * (state + 1) / STATES - 12) {
            calls += step(x, random);
        }
        return x;
    }

    /** The first five futures look at a node each; the others are runs of calls. */
    private static long future(ScarredLog x, int f, int state) {
        long sum = 17;
        if (f < 5) {
            return sight(x, f);
        }
        Random random = new Random(31L * f + state);
        // Leaders that stand now are heard first, as a new term would hide what is in theirs.
        for (int n = 0; n < 5; n++) {
            sum = add(sum, x.route(1 + random.nextInt(4), n));
            int s = 1 + random.nextInt(8);
            sum = add(sum, x.vote(n, random.nextInt(5), s));
            sum = add(sum, x.vote(n, random.nextInt(5), s));
        }
        for (int i = 0; i < CALLS_BEHIND - 15; i++) {
            sum = add(sum, call(x, random.nextInt(NAMES.length), random));
        }
        return sum;
    }

    private static long sight(ScarredLog x, int n) {
        long sum = n;
        for (int i = 0; i < 144; i++) {
            sum = add(sum, x.octet(n, i));
        }
        for (int what = 0; what <= 6; what++) {
            sum = add(sum, x.look(n, what));
        }
        for (int s = 1; s <= 8; s++) {
            sum = add(add(add(sum, x.slot(n, s)), x.plan(n, s)), x.chosen(n, s));
        }
        for (int key = 0; key < 4; key++) {
            sum = add(sum, x.value(n, key));
        }
        for (int q = 1; q <= 30; q++) {
            sum = add(add(sum, x.reply(q, false)), x.reply(q, true));
        }
        return sum;
    }

    private static long add(long sum, long answer) {
        return sum * 1000003 + answer;
    }

    /** Some calls towards a state, mostly such as come to something: how many. */
    private static int step(ScarredLog x, Random random) {
        int n = random.nextInt(3);
        switch (random.nextInt(6)) {
            case 0:
                x.lead(n);
                x.lead(n);
                for (int a = 0; a < 5; a++) {
                    x.promise(n, a);
                }
                return 7;
            case 1:
                int q = x.ask(random.nextInt(4), random.nextInt(100) - 20);
                x.route(q, n);
                return 2;
            case 2:
            case 3:
                int s = 1 + random.nextInt(4);
                for (int a = 0; a < 5; a++) {
                    x.vote(n, random.nextInt(5), s);
                }
                return 5;
            case 4:
                if (random.nextInt(3) == 0) {
                    x.wipe(n, 2 + random.nextInt(8));
                    x.wipe(n, random.nextInt(18));
                    x.crash(n);
                    x.restart(n);
                }
                return 4;
            default:
                call(x, random.nextInt(NAMES.length), random);
                return 1;
        }
    }

    /** One call with arguments in reach of the edges; a boolean counts 1 or 0. */
    private static long call(ScarredLog x, int kind, Random random) {
        int n = node(random);
        int a = node(random);
        int s = random.nextInt(10);
        switch (kind) {
            case 0:
                return x.ask(random.nextInt(10) - 3, random.nextInt(100));
            case 1:
                return x.lead(n);
            case 2:
                return x.promise(n, a);
            case 3:
                return x.route(random.nextInt(12) - 1, n);
            case 4:
                return x.vote(n, a, s);
            case 5:
                return x.tell(n, a);
            case 6:
                return x.mend(n, a, s);
            case 7:
                return bit(x.crash(n));
            case 8:
                return bit(x.restart(n));
            case 9:
                return bit(x.arm(n, random.nextInt(3) == 0 ? random.nextInt(60) - 10 : random.nextInt(5)));
            case 10:
                return bit(x.flip(n, random.nextInt(20) - 1, random.nextInt(70) - 3));
            case 11:
                return bit(x.wipe(n, random.nextInt(20) - 1));
            case 12:
                return x.look(n, random.nextInt(9) - 1);
            case 13:
                return x.slot(n, s);
            case 14:
                return x.plan(n, s);
            case 15:
                return x.chosen(n, s);
            case 16:
                return x.value(n, random.nextInt(6) - 1);
            case 17:
                return x.octet(n, random.nextInt(150) - 3);
            default:
                return x.reply(random.nextInt(12) - 1, random.nextBoolean());
        }
    }

    private static int node(Random random) {
        return random.nextInt(12) == 0 ? random.nextInt(9) - 2 : random.nextInt(3);
    }

    private static long bit(boolean b) {
        return b ? 1 : 0;
    }

    private static void leadGoesDown() {
        for (int k = 0; k <= 1; k++) {
            ScarredLog x = Due.led(3, 0, 0, 1);
            Due.votes(x, 0, 1, 0);
            Due.yes("arm(0, " + k + ")", x.arm(0, k));
            Due.is("lead(0)", x.lead(0), -4);
            Due.is("octet(0, 3)", x.octet(0, 3), 16);
            Due.is("octet(0, 7)", x.octet(0, 7), k == 0 ? 247 : 239);
            Due.is("octet(0, 11)", x.octet(0, 11), k == 0 ? 8 : 16);
            Due.is("octet(0, 15)", x.octet(0, 15), 247);
            Due.sector(x, 0, 2, 1, 0, 0, 8);
            Due.sector(x, 0, 3, 1, 0, 0, 8);
            x.restart(0);
            Due.is("look(0, 2)", x.look(0, 2), k == 0 ? 8 : 16);
        }
    }

    private static void promiseGoesDown() {
        for (int k = 0; k <= 1; k++) {
            ScarredLog x = Due.led(3, 0, 0);
            Due.yes("arm(1, " + k + ")", x.arm(1, k));
            Due.is("promise(0, 1)", x.promise(0, 1), -4);
            Due.is("octet(1, 3)", x.octet(1, 3), 8);
            Due.is("octet(1, 7)", x.octet(1, 7), k == 0 ? 255 : 247);
            Due.is("octet(1, 11)", x.octet(1, 11), k == 0 ? 0 : 8);
            Due.is("octet(1, 15)", x.octet(1, 15), 255);
            x.restart(1);
            Due.is("look(1, 2)", x.look(1, 2), k == 0 ? 0 : 8);
            Due.is("look(0, 4)", x.look(0, 4), 1);
        }
    }

    private static void voteGoesDown() {
        for (int k = 0; k <= 3; k++) {
            ScarredLog x = Due.led(3, 0, 0, 1);
            Due.yes("arm(2, " + k + ")", x.arm(2, k));
            Due.is("vote(0, 2, 1)", x.vote(0, 2, 1), -4);
            int[] low = {3, 11, 19, 27};
            for (int i = 0; i < 4; i++) {
                Due.is("octet(2, " + low[i] + ")", x.octet(2, low[i]), i <= k ? 8 : 0);
                Due.is("octet(2, " + (low[i] + 4) + ")", x.octet(2, low[i] + 4), i < k ? 247 : 255);
            }
        }
    }

    private static void mendGoesDown() {
        for (int k = 0; k <= 1; k++) {
            ScarredLog x = Due.led(3, 0, 0, 1);
            Due.votes(x, 0, 1, 0, 1);
            Due.scar(x, 1, 2);
            Due.yes("wipe(1, 3)", x.wipe(1, 3));
            Due.yes("arm(1, " + k + ")", x.arm(1, k));
            Due.is("mend(1, 0, 1)", x.mend(1, 0, 1), -4);
            Due.is("octet(1, 19)", x.octet(1, 19), 8);
            Due.is("octet(1, 23)", x.octet(1, 23), k == 0 ? 0 : 247);
            Due.is("octet(1, 27)", x.octet(1, 27), k == 0 ? 0 : 8);
            Due.is("octet(1, 31)", x.octet(1, 31), 0);
        }
    }

    /** The leader of the call keeps its term, and what the other nodes wrote and know stays. */
    private static void othersStay() {
        ScarredLog x = Due.led(3, 0, 0, 1);
        x.ask(2, 9);
        Due.is("route(1, 0)", x.route(1, 0), 1);
        Due.votes(x, 0, 1, 1);
        Due.yes("arm(2, 3)", x.arm(2, 3));
        Due.is("vote(0, 2, 1)", x.vote(0, 2, 1), -4);
        Due.sector(x, 1, 2, 1, 1, 0, 8);
        Due.sector(x, 1, 3, 1, 0, 0, 8);
        Due.is("slot(1, 1)", x.slot(1, 1), 513);
        Due.is("look(0, 3)", x.look(0, 3), 8);
        Due.is("look(0, 4)", x.look(0, 4), 3);
        Due.is("route(1, 0): still assigned", x.route(1, 0), 1);
        Due.is("vote(0, 0, 1): node 1 is still a voter", x.vote(0, 0, 1), 2);
        // A leader that falls by its own vote takes nothing from the one that voted before.
        ScarredLog y = Due.led(3, 0, 0, 1);
        Due.votes(y, 0, 1, 1);
        Due.yes("arm(0, 0)", y.arm(0, 0));
        Due.is("vote(0, 0, 1)", y.vote(0, 0, 1), -4);
        Due.is("slot(1, 1)", y.slot(1, 1), 512);
        Due.is("look(1, 2)", y.look(1, 2), 8);
    }
}
