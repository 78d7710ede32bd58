/** Promise 5, a test for each sentence that names a boundary. */
public final class Edges05RouteTest {
    public static void main(String[] args) {
        Due.sentence("-1: no such request", Edges05RouteTest::noSuchRequest);
        Due.sentence("-1: no such .. node", Edges05RouteTest::noSuchNode);
        Due.sentence("0: n is down", Edges05RouteTest::down);
        Due.sentence("0: n .. has neither done q in its map nor a term with a majority of promisers",
            Edges05RouteTest::neither);
        Due.sentence("If q is done in its map: the client HEARS the answer there: 100", Edges05RouteTest::hears);
        Due.sentence("if q is assigned to a slot in the term: that slot", Edges05RouteTest::assigned);
        Due.sentence("else the lowest slot is assigned to it", Edges05RouteTest::lowest);
        Due.sentence("that has a FREE plan", Edges05RouteTest::freePlan);
        Due.sentence("no assigned request", Edges05RouteTest::noAssigned);
        Due.sentence("and no fixed command", Edges05RouteTest::noFixed);
        Due.sentence("behind which no slot has another plan than FREE", Edges05RouteTest::behindPlan);
        Due.sentence("behind which no slot has .. an assigned request", Edges05RouteTest::behindAssigned);
        Due.sentence("behind which no slot has .. a fixed command", Edges05RouteTest::behindFixed);
        Due.sentence("-2 if there is none", Edges05RouteTest::none);
        Due.sentence("the refusals in their order", Edges05RouteTest::order);
        Due.end();
    }

    private static ScarredLog asked(int requests) {
        ScarredLog x = Due.led(3, 0, 0, 1);
        for (int q = 1; q <= requests; q++) {
            x.ask(0, 10 * q);
        }
        return x;
    }

    private static void noSuchRequest() {
        ScarredLog x = asked(2);
        for (int q : new int[] {0, -1, 3, 4, 30, 31, 256, 257, Integer.MIN_VALUE, Integer.MAX_VALUE}) {
            Due.is("route(" + q + ", 0)", x.route(q, 0), -1);
        }
        Due.is("route(2, 0)", x.route(2, 0), 1);
        Due.is("route(1, 0)", x.route(1, 0), 2);
        // NOTHING was chosen and done, but is no request.
        Due.votes(x, 0, 3, 0, 1);
        Due.is("route(0, 0)", x.route(0, 0), -1);
        Due.is("ask", x.ask(0, 1), 3);
        Due.is("route(3, 0)", x.route(3, 0), 4);
        ScarredLog y = asked(30);
        Due.is("route(30, 0)", y.route(30, 0), 1);
        Due.is("route(31, 0)", y.route(31, 0), -1);
    }

    private static void noSuchNode() {
        for (int size : new int[] {3, 5}) {
            ScarredLog x = new ScarredLog(size);
            x.ask(0, 1);
            for (int n : Due.noNodes(size)) {
                Due.is("route(1, " + n + ")", x.route(1, n), -1);
            }
        }
    }

    private static void down() {
        ScarredLog x = asked(2);
        Due.is("route(1, 0)", x.route(1, 0), 1);
        Due.votes(x, 0, 1, 0, 1);
        x.crash(0);
        Due.is("route(1, 0): it had done that", x.route(1, 0), 0);
        Due.is("route(2, 0)", x.route(2, 0), 0);
        Due.is("reply(1, true)", x.reply(1, true), 0);
    }

    private static void neither() {
        ScarredLog x = new ScarredLog(5);
        x.ask(0, 1);
        Due.is("route(1, 0): no term", x.route(1, 0), 0);
        x.lead(0);
        for (int a = 0; a < 2; a++) {
            Due.is("route(1, 0): " + a + " promisers", x.route(1, 0), 0);
            x.promise(0, a);
        }
        Due.is("route(1, 0): two of five", x.route(1, 0), 0);
        x.promise(0, 4);
        Due.is("route(1, 0): three of five", x.route(1, 0), 1);
        // Either of them is enough: done without a term, or a term without a majority.
        Due.votes(x, 0, 1, 0, 1, 2);
        Due.is("tell(0, 3)", x.tell(0, 3), 1);
        Due.is("route(1, 3): done", x.route(1, 3), 100);
        x.lead(0);
        Due.is("route(1, 0): done, no promisers", x.route(1, 0), 100);
        // Chosen is not done, if a slot before it is missing.
        ScarredLog y = asked(2);
        y.route(1, 0);
        y.route(2, 0);
        Due.votes(y, 0, 2, 0, 1);
        Due.is("tell(0, 1)", y.tell(0, 1), 1);
        Due.is("route(2, 1)", y.route(2, 1), 0);
    }

    private static void hears() {
        ScarredLog x = asked(2);
        x.route(1, 0);
        x.route(2, 0);
        Due.votes(x, 0, 1, 0, 1);
        Due.is("reply(1, true)", x.reply(1, true), 0);
        Due.is("route(1, 0)", x.route(1, 0), 100);
        Due.is("reply(1, true)", x.reply(1, true), 1);
        Due.is("route(2, 0): assigned, not done", x.route(2, 0), 2);
        Due.votes(x, 0, 2, 0, 1);
        Due.is("route(2, 0)", x.route(2, 0), 100);
        Due.is("reply(2, false)", x.reply(2, false), 10);
        Due.is("reply(2, true)", x.reply(2, true), 1);
        Due.is("reply(1, true): no other's", x.reply(1, true), 1);
        // A node that is outbid, or mute, lets it hear as well.
        x.lead(2);
        x.promise(2, 0);
        Due.is("route(1, 0)", x.route(1, 0), 100);
        Due.mute(x, 1);
        Due.is("tell(0, 1)", x.tell(0, 1), 2);
        Due.is("route(1, 1)", x.route(1, 1), 100);
        Due.is("reply(1, true)", x.reply(1, true), 3);
    }

    private static void assigned() {
        ScarredLog x = asked(8);
        for (int q = 8; q >= 1; q--) {
            Due.is("route(" + q + ", 0)", x.route(q, 0), 9 - q);
        }
        for (int q = 1; q <= 8; q++) {
            Due.is("route(" + q + ", 0) again", x.route(q, 0), 9 - q);
        }
        // Whatever became of the slot since: fixed, of another plan, or blocked.
        ScarredLog y = asked(2);
        y.route(1, 0);
        Due.votes(y, 0, 1, 2);
        Due.is("route(1, 0): fixed", y.route(1, 0), 1);
        Due.begin(y, 1, 0, 1);
        Due.is("route(2, 1)", y.route(2, 1), 1);
        Due.is("promise(1, 2)", y.promise(1, 2), 1);
        Due.is("plan(1, 1)", y.plan(1, 1), 1);
        Due.is("route(2, 1): another plan", y.route(2, 1), 1);
        Due.scar(y, 2, 2, 3);
        Due.scar(y, 0, 2, 3);
        Due.is("promise(1, 2)", y.promise(1, 2), 1);
        Due.is("promise(1, 0)", y.promise(1, 0), 1);
        Due.is("plan(1, 1)", y.plan(1, 1), -2);
        Due.is("route(2, 1): blocked", y.route(2, 1), 1);
    }

    private static void lowest() {
        ScarredLog x = asked(8);
        for (int q = 1; q <= 8; q++) {
            Due.is("route(" + q + ", 0)", x.route(q, 0), q);
        }
    }

    private static void freePlan() {
        ScarredLog x = asked(1);
        Due.votes(x, 0, 1, 1);
        Due.begin(x, 2, 1, 2);
        Due.is("plan(2, 1)", x.plan(2, 1), 0);
        Due.is("route(1, 2)", x.route(1, 2), 2);
        Due.scar(x, 1, 2);
        Due.begin(x, 2, 1, 2);
        Due.is("plan(2, 1)", x.plan(2, 1), -2);
        Due.is("route(1, 2)", x.route(1, 2), 2);
    }

    private static void noAssigned() {
        ScarredLog x = asked(2);
        Due.is("route(2, 0)", x.route(2, 0), 1);
        Due.is("route(1, 0)", x.route(1, 0), 2);
        Due.is("route(2, 0)", x.route(2, 0), 1);
    }

    private static void noFixed() {
        ScarredLog x = asked(2);
        Due.votes(x, 0, 1, 2);
        Due.is("plan(0, 1): free, but fixed", x.plan(0, 1), -3);
        Due.is("route(1, 0)", x.route(1, 0), 2);
        // Fixed by a call that ended with a node down.
        Due.yes("arm(1, 0)", x.arm(1, 0));
        Due.is("vote(0, 1, 3)", x.vote(0, 1, 3), -4);
        Due.is("route(2, 0)", x.route(2, 0), 4);
    }

    private static void behindPlan() {
        for (int s = 2; s <= 7; s++) {
            ScarredLog x = asked(1);
            Due.votes(x, 0, s, 1);
            Due.begin(x, 2, 1, 2);
            Due.is("plan(2, " + s + ")", x.plan(2, s), 0);
            Due.is("route(1, 2): behind " + s, x.route(1, 2), s + 1);
            ScarredLog y = asked(1);
            Due.votes(y, 0, s, 1);
            Due.scar(y, 1, 2 * s);
            Due.begin(y, 2, 1, 2);
            Due.is("plan(2, " + s + ")", y.plan(2, s), -2);
            Due.is("route(1, 2): behind the blocked " + s, y.route(1, 2), s + 1);
        }
    }

    /** Slot 2 is assigned while slot 1 is blocked; then slot 1 is free, but before an assigned one. */
    private static void behindAssigned() {
        ScarredLog x = asked(3);
        Due.votes(x, 0, 1, 1);
        Due.scar(x, 1, 2);
        Due.begin(x, 2, 1, 2);
        Due.is("plan(2, 1)", x.plan(2, 1), -2);
        Due.is("route(1, 2)", x.route(1, 2), 2);
        Due.is("promise(2, 0)", x.promise(2, 0), 1);
        Due.is("plan(2, 1)", x.plan(2, 1), -3);
        Due.is("route(2, 2)", x.route(2, 2), 3);
    }

    private static void behindFixed() {
        for (int s = 2; s <= 7; s++) {
            ScarredLog x = asked(1);
            Due.votes(x, 0, s, 1);
            Due.is("plan(0, " + s + ")", x.plan(0, s), -3);
            Due.is("route(1, 0): behind the fixed " + s, x.route(1, 0), s + 1);
        }
    }

    private static void none() {
        ScarredLog full = asked(10);
        for (int q = 1; q <= 7; q++) {
            full.route(q, 0);
        }
        Due.is("route(8, 0): the last slot", full.route(8, 0), 8);
        Due.is("route(9, 0): all are assigned", full.route(9, 0), -2);
        Due.is("route(10, 0)", full.route(10, 0), -2);
        Due.is("route(9, 0): nothing was assigned by that", full.route(9, 0), -2);
        Due.is("route(8, 0)", full.route(8, 0), 8);
        ScarredLog fixed = asked(1);
        Due.votes(fixed, 0, 8, 1);
        Due.is("route(1, 0): 8 is fixed", fixed.route(1, 0), -2);
        Due.begin(fixed, 2, 1, 2);
        Due.is("route(1, 2): 8 has a plan", fixed.route(1, 2), -2);
        Due.scar(fixed, 1, 16);
        Due.begin(fixed, 2, 1, 2);
        Due.is("route(1, 2): 8 is blocked", fixed.route(1, 2), -2);
        Due.is("promise(2, 0)", fixed.promise(2, 0), 1);
        Due.is("route(1, 2): 8 is free", fixed.route(1, 2), 1);
    }

    private static void order() {
        ScarredLog x = new ScarredLog(3);
        x.crash(0);
        Due.is("route(1, 0): no such request, at one that is down", x.route(1, 0), -1);
        x.ask(0, 1);
        Due.is("route(1, 0)", x.route(1, 0), 0);
        // Done goes before assigned, and before there being no slot.
        ScarredLog y = asked(9);
        for (int q = 1; q <= 8; q++) {
            y.route(q, 0);
        }
        Due.votes(y, 0, 1, 0, 1);
        Due.is("route(1, 0)", y.route(1, 0), 100);
        Due.is("route(9, 0)", y.route(9, 0), -2);
    }
}
