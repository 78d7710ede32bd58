/** The boundaries that the document names of the PLAN, a test for each sentence. */
public final class EdgesPlanTest {
    public static void main(String[] args) {
        Due.sentence("PLAN of a slot in a term whose promisers are a majority", EdgesPlanTest::majority);
        Due.sentence("h is the vote with the greatest ballot that a promiser told", EdgesPlanTest::greatest);
        Due.sentence("that a promiser told: what it told, not what it has now", EdgesPlanTest::told);
        Due.sentence("(none: ballot 0)", EdgesPlanTest::none);
        Due.sentence("If the promisers that told it whole or empty are a majority", EdgesPlanTest::soundMajority);
        Due.sentence("or all that told it damaged told a known ballot not above that of h", EdgesPlanTest::notAbove);
        Due.sentence("all that told it damaged: one of two is above", EdgesPlanTest::oneOfTwoAbove);
        Due.sentence("all that told it damaged: there is none", EdgesPlanTest::noneDamaged);
        Due.sentence("a known ballot", EdgesPlanTest::unknown);
        Due.sentence("the plan is h's command, or FREE if there is no h", EdgesPlanTest::commandOrFree);
        Due.sentence("Otherwise the slot is BLOCKED", EdgesPlanTest::blocked);
        Due.end();
    }

    private static void majority() {
        for (int size : new int[] {3, 5}) {
            ScarredLog x = Due.led(size, 0);
            for (int count = 0; count <= size; count++) {
                boolean most = 2 * count > size;
                Due.is("plan(0, 1) with " + count, x.plan(0, 1), most ? -3 : -1);
                Due.is("plan(0, 8) with " + count, x.plan(0, 8), most ? -3 : -1);
                if (count < size) {
                    Due.is("promise(0, " + count + ")", x.promise(0, count), 1);
                }
            }
        }
    }

    /** Of five: node 0 voted for request 1 with ballot 8, node 1 for request 2 with 9, both for slot 1. */
    private static ScarredLog divided() {
        ScarredLog x = Due.led(5, 0, 0, 3, 4);
        x.ask(0, 1);
        x.ask(0, 2);
        x.route(1, 0);
        Due.votes(x, 0, 1, 0);
        Due.begin(x, 1, 1, 3, 4);
        x.route(2, 1);
        Due.votes(x, 1, 1, 1);
        return x;
    }

    private static void greatest() {
        // The one with the greater ballot is told first, then last, by the higher node and by the lower one.
        for (int first = 0; first <= 1; first++) {
            ScarredLog x = divided();
            Due.begin(x, 2, first, 1 - first, 3);
            Due.is("plan(2, 1)", x.plan(2, 1), 2);
        }
        ScarredLog y = Due.led(5, 1, 1, 3, 4);
        y.ask(0, 1);
        y.ask(0, 2);
        y.route(1, 1);
        Due.votes(y, 1, 1, 1);
        y.lead(0);
        Due.begin(y, 0, 0, 3, 4);
        y.route(2, 0);
        Due.votes(y, 0, 1, 0);
        y.lead(2);
        Due.begin(y, 2, 0, 1, 3);
        Due.is("plan(2, 1): 16 of the lower node, 9 of the higher", y.plan(2, 1), 2);
        // The greatest ballot, not the greatest command.
        ScarredLog z = Due.led(5, 0, 0, 3, 4);
        z.ask(0, 1);
        z.ask(0, 2);
        z.route(2, 0);
        Due.votes(z, 0, 1, 0);
        Due.begin(z, 1, 1, 3, 4);
        z.route(1, 1);
        Due.votes(z, 1, 1, 1);
        Due.begin(z, 2, 0, 1, 3);
        Due.is("plan(2, 1)", z.plan(2, 1), 1);
    }

    private static void told() {
        ScarredLog x = Due.led(3, 0, 0, 1);
        x.ask(0, 1);
        x.route(1, 0);
        Due.votes(x, 0, 1, 0, 1);
        Due.is("plan(0, 1): told empty", x.plan(0, 1), -3);
        Due.is("promise(0, 0)", x.promise(0, 0), 1);
        Due.is("plan(0, 1): told anew", x.plan(0, 1), 1);
        // A vote of a node that is no promiser counts nothing.
        ScarredLog y = Due.led(3, 0, 0, 1);
        Due.votes(y, 0, 1, 2);
        Due.begin(y, 1, 0, 1);
        Due.is("plan(1, 1)", y.plan(1, 1), -3);
        Due.is("promise(1, 2)", y.promise(1, 2), 1);
        Due.is("plan(1, 1)", y.plan(1, 1), 0);
        // What was told stays, though the node has gone down.
        Due.yes("crash(2)", y.crash(2));
        Due.is("plan(1, 1)", y.plan(1, 1), 0);
    }

    private static void none() {
        ScarredLog x = Due.led(3, 0, 0, 1);
        Due.votes(x, 0, 1, 1);
        Due.scar(x, 1, 2);
        Due.begin(x, 2, 1, 2);
        Due.is("slot(1, 1)", x.slot(1, 1), -10);
        Due.is("plan(2, 1): 8 is above 0", x.plan(2, 1), -2);
    }

    private static void soundMajority() {
        // Two of three are one whole and one empty: an unknown ballot does not matter any more.
        ScarredLog x = Due.led(3, 0, 0, 1);
        Due.votes(x, 0, 1, 0, 1);
        Due.scar(x, 1, 2, 3);
        Due.begin(x, 2, 2, 1);
        Due.is("plan(2, 1): one of three is empty", x.plan(2, 1), -2);
        Due.is("promise(2, 0)", x.promise(2, 0), 1);
        Due.is("plan(2, 1): one is empty, one whole", x.plan(2, 1), 0);
        // Two of five are not a majority, though two of the four promisers are sound; three are.
        ScarredLog y = Due.led(5, 0, 0, 1, 2);
        Due.votes(y, 0, 1, 1, 2);
        Due.scar(y, 1, 2);
        Due.scar(y, 2, 2);
        Due.begin(y, 4, 1, 2, 3);
        Due.is("plan(4, 1): one of five", y.plan(4, 1), -2);
        Due.is("promise(4, 4)", y.promise(4, 4), 1);
        Due.is("plan(4, 1): two of five", y.plan(4, 1), -2);
        Due.is("promise(4, 0)", y.promise(4, 0), 1);
        Due.is("plan(4, 1): three of five, all empty", y.plan(4, 1), -3);
    }

    private static void notAbove() {
        ScarredLog x = divided();
        Due.scar(x, 0, 2);
        Due.begin(x, 2, 0, 1, 3);
        Due.is("plan(2, 1): 8 is below 9", x.plan(2, 1), 2);
        ScarredLog y = Due.led(3, 0, 0, 1);
        Due.votes(y, 0, 1, 0, 1);
        Due.scar(y, 0, 2);
        Due.begin(y, 2, 0, 1);
        Due.is("plan(2, 1): 8 is not above 8", y.plan(2, 1), 0);
        ScarredLog z = divided();
        Due.scar(z, 1, 2);
        Due.begin(z, 2, 0, 1, 3);
        Due.is("plan(2, 1): 9 is above 8", z.plan(2, 1), -2);
    }

    private static void oneOfTwoAbove() {
        for (int first = 0; first <= 1; first++) {
            // Ballots 8, 9 and 10 of nodes 0, 1 and 3; the one of node 1 is whole.
            ScarredLog x = divided();
            Due.begin(x, 2, 2, 3, 4);
            Due.votes(x, 2, 1, 3);
            Due.scar(x, 0, 2);
            Due.begin(x, 4, 0, 1, 2);
            Due.is("plan(4, 1): 8 is below 9", x.plan(4, 1), 2);
            Due.scar(x, 3, 2);
            Due.begin(x, 4, first == 0 ? 0 : 3, 1, first == 0 ? 3 : 0);
            Due.is("plan(4, 1): 8 is below 9, but 10 is above", x.plan(4, 1), -2);
        }
        // The lower node has the greater ballot: 16, with 10 whole and 9 damaged at nodes 4 and 3.
        ScarredLog y = Due.led(5, 1, 1, 2, 3);
        Due.votes(y, 1, 1, 3);
        Due.begin(y, 2, 0, 1, 2);
        Due.votes(y, 2, 1, 4);
        Due.begin(y, 0, 0, 1, 2);
        Due.is("vote(0, 0, 1): ballot 16", y.vote(0, 0, 1), 1);
        Due.scar(y, 3, 2);
        Due.scar(y, 0, 2);
        Due.is("lead(1)", y.lead(1), 17);
        for (int a : new int[] {0, 3, 4}) {
            Due.is("promise(1, " + a + ")", y.promise(1, a), 1);
        }
        Due.is("plan(1, 1): 9 is below 10, but 16 is above", y.plan(1, 1), -2);
    }

    private static void noneDamaged() {
        ScarredLog x = divided();
        Due.scar(x, 3, 2, 3);
        Due.begin(x, 2, 0, 2, 4);
        Due.is("plan(2, 1): 3 told nothing", x.plan(2, 1), 1);
        Due.is("plan(2, 2)", x.plan(2, 2), -3);
    }

    private static void unknown() {
        // However great h's ballot is, an unknown one may be above.
        ScarredLog x = divided();
        Due.scar(x, 0, 2, 3);
        for (int i = 0; i < 60; i++) {
            x.lead(2);
        }
        Due.begin(x, 2, 1, 2, 3, 4);
        Due.votes(x, 2, 1, 1, 2, 3, 4);
        Due.begin(x, 2, 0, 1, 2);
        Due.is("slot(1, 1)", x.slot(1, 1), 64 * (8 * 61 + 2) + 2);
        Due.is("plan(2, 1)", x.plan(2, 1), -2);
        Due.is("promise(2, 3)", x.promise(2, 3), 1);
        Due.is("plan(2, 1): three are sound", x.plan(2, 1), 2);
    }

    private static void commandOrFree() {
        ScarredLog x = Due.led(3, 0, 0, 1);
        for (int q = 1; q <= 30; q++) {
            x.ask(0, q);
        }
        x.route(30, 0);
        Due.votes(x, 0, 1, 1);
        Due.votes(x, 0, 2, 1);
        Due.begin(x, 2, 1, 2);
        Due.is("plan(2, 1)", x.plan(2, 1), 30);
        Due.is("plan(2, 2): NOTHING is a command", x.plan(2, 2), 0);
        Due.is("plan(2, 3)", x.plan(2, 3), -3);
    }

    private static void blocked() {
        ScarredLog x = Due.led(3, 0, 0, 1);
        Due.votes(x, 0, 1, 1);
        Due.votes(x, 0, 8, 1);
        Due.scar(x, 1, 16);
        Due.begin(x, 2, 1, 2);
        Due.is("plan(2, 8)", x.plan(2, 8), -2);
        Due.is("plan(2, 7): just that slot", x.plan(2, 7), -3);
        Due.is("plan(2, 1)", x.plan(2, 1), 0);
        Due.is("vote(2, 2, 8)", x.vote(2, 2, 8), -5);
        Due.is("vote(2, 2, 1)", x.vote(2, 2, 1), 1);
    }
}
