/** The boundaries that 'What it is' and the first lines of 'Terms' name, a test for each sentence. */
public final class EdgesObjectTest {
    private static final int MOST_CALLS = 512;

    public static void main(String[] args) {
        Due.sentence("An object is used for at most 512 calls after it has been made", EdgesObjectTest::lastCall);
        Due.sentence("NODES 0 .. N - 1", EdgesObjectTest::nodes);
        Due.sentence("N is 3 or 5", EdgesObjectTest::sizes);
        Due.sentence("a MAJORITY is more than half of them: of the promisers", EdgesObjectTest::promisersMajority);
        Due.sentence("a MAJORITY is more than half of them: of the voters", EdgesObjectTest::votersMajority);
        Due.sentence("SLOTS 1 .. 8", EdgesObjectTest::slots);
        Due.sentence("REQUESTS 1, 2, .. (at most 30)", EdgesObjectTest::requests);
        Due.sentence("put a number into a KEY 0 .. 3", EdgesObjectTest::keys);
        Due.sentence("BALLOTS of node n are 8 * k + n, k from 1 on", EdgesObjectTest::ballots);
        Due.sentence("0 is none", EdgesObjectTest::noBallot);
        Due.sentence("A COMMAND is a request, or 0, NOTHING", EdgesObjectTest::commands);
        Due.end();
    }

    /** The 512th call still answers as due, be it one that changes something or one that looks. */
    private static void lastCall() {
        ScarredLog x = new ScarredLog(5);
        int calls = 0;
        for (; calls < MOST_CALLS; calls++) {
            Due.is("lead(4), call " + (calls + 1), x.lead(4), 8 * (calls + 1) + 4);
        }
        ScarredLog y = new ScarredLog(5);
        y.ask(1, -9);
        y.lead(2);
        y.promise(2, 0);
        y.promise(2, 2);
        y.promise(2, 4);
        y.route(1, 2);
        y.vote(2, 1, 1);
        y.vote(2, 3, 1);
        for (calls = 8; calls < MOST_CALLS - 1; calls++) {
            Due.is("vote(2, 1, 1), call " + (calls + 1), y.vote(2, 1, 1), 1);
        }
        Due.is("vote(2, 4, 1), call 512", y.vote(2, 4, 1), 2);
    }

    private static void nodes() {
        for (int size : new int[] {3, 5}) {
            ScarredLog x = new ScarredLog(size);
            for (int n : new int[] {0, size - 1}) {
                Due.is("look(" + n + ", 0)", x.look(n, 0), 1);
                Due.is("lead(" + n + ")", x.lead(n), 8 + n);
                Due.is("promise(" + n + ", " + n + ")", x.promise(n, n), 1);
                Due.is("octet(" + n + ", 3)", x.octet(n, 3), 8 + n);
                Due.yes("arm(" + n + ", 1)", x.arm(n, 1));
                Due.yes("flip(" + n + ", 5, 1)", x.flip(n, 5, 1));
                Due.yes("wipe(" + n + ", 6)", x.wipe(n, 6));
                Due.yes("crash(" + n + ")", x.crash(n));
                Due.yes("restart(" + n + ")", x.restart(n));
                Due.is("slot(" + n + ", 3)", x.slot(n, 3), 0);
            }
            for (int n : Due.noNodes(size)) {
                Due.is("look(" + n + ", 0)", x.look(n, 0), -1);
            }
        }
    }

    private static void sizes() {
        for (int given : new int[] {3, 4, 5, 6}) {
            ScarredLog x = new ScarredLog(given);
            int size = given == 5 ? 5 : 3;
            Due.is("look(2, 0) of " + given, x.look(2, 0), 1);
            Due.is("look(3, 0) of " + given, x.look(3, 0), size == 5 ? 1 : -1);
            Due.is("look(4, 0) of " + given, x.look(4, 0), size == 5 ? 1 : -1);
            Due.is("look(5, 0) of " + given, x.look(5, 0), -1);
        }
    }

    private static void promisersMajority() {
        for (int size : new int[] {3, 5}) {
            ScarredLog x = Due.led(size, 1);
            x.ask(0, 1);
            Due.is("plan(1, 1): none of " + size, x.plan(1, 1), -1);
            for (int count = 1; count <= size; count++) {
                Due.is("promise", x.promise(1, size - count), 1);
                boolean most = 2 * count > size;
                Due.is("plan(1, 1): " + count + " of " + size, x.plan(1, 1), most ? -3 : -1);
                Due.is("route(1, 1): " + count + " of " + size, x.route(1, 1), most ? 1 : 0);
            }
        }
    }

    private static void votersMajority() {
        for (int size : new int[] {3, 5}) {
            ScarredLog x = Due.led(size, 0, 0, 1, 2);
            for (int count = 1; count <= size; count++) {
                int least = size / 2 + 1;
                Due.is("vote: " + count + " of " + size, x.vote(0, size - count, 4), count == least ? 2 : 1);
                Due.is("chosen(0, 4): " + count + " of " + size, x.chosen(0, 4), count >= least ? 0 : -1);
            }
        }
    }

    private static void slots() {
        ScarredLog x = Due.led(3, 0, 0, 1);
        for (int s : new int[] {1, 8}) {
            Due.is("slot(0, " + s + ")", x.slot(0, s), 0);
            Due.is("plan(0, " + s + ")", x.plan(0, s), -3);
            Due.is("vote(0, 0, " + s + ")", x.vote(0, 0, s), 1);
            Due.is("vote(0, 1, " + s + ")", x.vote(0, 1, s), 2);
            Due.is("chosen(0, " + s + ")", x.chosen(0, s), 0);
            Due.is("slot(0, " + s + ")", x.slot(0, s), 512);
        }
        for (int s : new int[] {2, 7}) {
            Due.is("slot(0, " + s + ")", x.slot(0, s), 0);
        }
        for (int s : Due.noSlots()) {
            Due.is("slot(0, " + s + ")", x.slot(0, s), -1);
            Due.is("vote(0, 0, " + s + ")", x.vote(0, 0, s), -1);
        }
    }

    private static void requests() {
        ScarredLog x = Due.led(3, 0, 0, 1);
        for (int q = 1; q <= 30; q++) {
            Due.is("ask", x.ask(q % 4, q), q);
        }
        Due.is("ask: the 31st", x.ask(0, 1), -1);
        Due.is("route(30, 0)", x.route(30, 0), 1);
        Due.is("route(1, 0)", x.route(1, 0), 2);
        Due.is("route(31, 0)", x.route(31, 0), -1);
        Due.is("route(0, 0)", x.route(0, 0), -1);
        Due.votes(x, 0, 1, 0, 1);
        Due.votes(x, 0, 2, 0, 1);
        Due.is("chosen(0, 1)", x.chosen(0, 1), 30);
        Due.is("value(0, 2)", x.value(0, 2), 30);
        Due.is("value(0, 1)", x.value(0, 1), 1);
    }

    private static void keys() {
        ScarredLog x = Due.led(3, 0, 0, 1);
        Due.is("ask(0, 11)", x.ask(0, 11), 1);
        Due.is("ask(3, 33)", x.ask(3, 33), 2);
        for (int q = 1; q <= 2; q++) {
            x.route(q, 0);
            Due.votes(x, 0, q, 0, 1);
        }
        Due.is("value(0, 0)", x.value(0, 0), 11);
        Due.is("value(0, 1)", x.value(0, 1), 0);
        Due.is("value(0, 2)", x.value(0, 2), 0);
        Due.is("value(0, 3)", x.value(0, 3), 33);
    }

    private static void ballots() {
        for (int n = 0; n < 5; n++) {
            ScarredLog x = new ScarredLog(5);
            for (int k = 1; k <= 40; k++) {
                Due.is("lead(" + n + ")", x.lead(n), 8 * k + n);
            }
        }
    }

    private static void noBallot() {
        ScarredLog x = new ScarredLog(3);
        Due.is("look(0, 2)", x.look(0, 2), 0);
        Due.is("look(0, 3)", x.look(0, 3), 0);
        Due.is("promise(0, 1): no term", x.promise(0, 1), 0);
        Due.is("lead(0): not 0", x.lead(0), 8);
        Due.is("look(0, 3)", x.look(0, 3), 8);
    }

    private static void commands() {
        ScarredLog x = Due.led(3, 0, 0, 1);
        x.ask(0, 5);
        Due.is("route(1, 0)", x.route(1, 0), 1);
        Due.votes(x, 0, 1, 0, 1);
        Due.votes(x, 0, 2, 0, 1);
        Due.is("chosen(0, 1): a request", x.chosen(0, 1), 1);
        Due.is("chosen(0, 2): nothing", x.chosen(0, 2), 0);
        Due.is("chosen(0, 3): none", x.chosen(0, 3), -1);
        Due.is("slot(0, 1)", x.slot(0, 1), 513);
        Due.is("slot(0, 2)", x.slot(0, 2), 512);
    }
}
