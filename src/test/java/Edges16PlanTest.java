/** Promise 16, a test for each sentence that names a boundary; how the plan is found has its own in EdgesPlanTest. */
public final class Edges16PlanTest {
    public static void main(String[] args) {
        Due.sentence("The plan of slot s in node n's term: the command", Edges16PlanTest::command);
        Due.sentence("-3 FREE", Edges16PlanTest::free);
        Due.sentence("-2 BLOCKED", Edges16PlanTest::blocked);
        Due.sentence("-1 if there is no such node", Edges16PlanTest::noSuchNode);
        Due.sentence("-1 if there is no such .. slot", Edges16PlanTest::noSuchSlot);
        Due.sentence("-1 if .. it is down", Edges16PlanTest::down);
        Due.sentence("-1 if .. it has no term with a majority of promisers", Edges16PlanTest::noMajority);
        Due.end();
    }

    /** Node 1 voted for request 1 in slot 1 and for NOTHING in slot 8; node 2 leads with its promise. */
    private static ScarredLog voted() {
        ScarredLog x = Due.led(3, 0, 0, 1);
        x.ask(0, 5);
        x.route(1, 0);
        Due.votes(x, 0, 1, 1);
        Due.votes(x, 0, 8, 1);
        Due.begin(x, 2, 1, 2);
        return x;
    }

    private static void command() {
        ScarredLog x = voted();
        Due.is("plan(2, 1)", x.plan(2, 1), 1);
        Due.is("plan(2, 8): NOTHING", x.plan(2, 8), 0);
        Due.is("plan(0, 1): in another term another", x.plan(0, 1), -3);
    }

    private static void free() {
        ScarredLog x = voted();
        for (int s = 2; s <= 7; s++) {
            Due.is("plan(2, " + s + ")", x.plan(2, s), -3);
        }
        // An assigned request or a fixed command is no plan.
        ScarredLog y = Due.led(3, 0, 0, 1);
        y.ask(0, 5);
        Due.is("route(1, 0)", y.route(1, 0), 1);
        Due.is("plan(0, 1)", y.plan(0, 1), -3);
        Due.votes(y, 0, 1, 0, 1);
        Due.is("plan(0, 1)", y.plan(0, 1), -3);
    }

    private static void blocked() {
        ScarredLog x = voted();
        Due.scar(x, 1, 2, 16, 17);
        Due.begin(x, 2, 1, 2);
        Due.is("plan(2, 1)", x.plan(2, 1), -2);
        Due.is("plan(2, 8)", x.plan(2, 8), -2);
        Due.is("plan(2, 2)", x.plan(2, 2), -3);
    }

    private static void noSuchNode() {
        for (int size : new int[] {3, 5}) {
            ScarredLog x = Due.led(size, 0, 0, 1, 2);
            for (int n : Due.noNodes(size)) {
                Due.is("plan(" + n + ", 1)", x.plan(n, 1), -1);
            }
        }
    }

    private static void noSuchSlot() {
        ScarredLog x = voted();
        for (int s : Due.noSlots()) {
            Due.is("plan(2, " + s + ")", x.plan(2, s), -1);
        }
    }

    private static void down() {
        ScarredLog x = voted();
        x.crash(2);
        Due.is("plan(2, 1)", x.plan(2, 1), -1);
        Due.is("plan(2, 2)", x.plan(2, 2), -1);
        x.restart(2);
        Due.is("plan(2, 1): its term is lost", x.plan(2, 1), -1);
    }

    private static void noMajority() {
        ScarredLog x = voted();
        Due.is("plan(1, 1): no term", x.plan(1, 1), -1);
        Due.is("lead(2)", x.lead(2), 18);
        Due.is("plan(2, 1): none of three", x.plan(2, 1), -1);
        Due.is("promise(2, 1)", x.promise(2, 1), 1);
        Due.is("plan(2, 1): one of three", x.plan(2, 1), -1);
        Due.is("promise(2, 1)", x.promise(2, 1), 1);
        Due.is("plan(2, 1): still one", x.plan(2, 1), -1);
        Due.is("promise(2, 2)", x.promise(2, 2), 1);
        Due.is("plan(2, 1): two of three", x.plan(2, 1), 1);
        ScarredLog y = Due.led(5, 4, 0, 1);
        Due.is("plan(4, 1): two of five", y.plan(4, 1), -1);
        Due.is("promise(4, 2)", y.promise(4, 2), 1);
        Due.is("plan(4, 1): three of five", y.plan(4, 1), -3);
    }
}
