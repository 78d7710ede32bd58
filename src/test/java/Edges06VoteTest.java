/** Promise 6, a test for each sentence that names a boundary. */
public final class Edges06VoteTest {
    public static void main(String[] args) {
        Due.sentence("asks node a (perhaps itself) to vote for slot s", Edges06VoteTest::itself);
        Due.sentence("-1: no such node", Edges06VoteTest::noSuchNode);
        Due.sentence("-1: no such .. slot", Edges06VoteTest::noSuchSlot);
        Due.sentence("0: n is down", Edges06VoteTest::down);
        Due.sentence("0: n .. has no term", Edges06VoteTest::noTerm);
        Due.sentence("0: .. or its promisers are no majority", Edges06VoteTest::noMajority);
        Due.sentence("-2: a is down", Edges06VoteTest::askedDown);
        Due.sentence("-2: a is .. mute", Edges06VoteTest::askedMute);
        Due.sentence("-3: a has promised a greater ballot", Edges06VoteTest::greater);
        Due.sentence("-5: the slot has no fixed command and is BLOCKED", Edges06VoteTest::blocked);
        Due.sentence("-5: the slot has no fixed command: one that is fixed goes on", Edges06VoteTest::blockedButFixed);
        Due.sentence("if there is no fixed command, it becomes the plan", Edges06VoteTest::becomesThePlan);
        Due.sentence("where that is FREE: the assigned request, or NOTHING", Edges06VoteTest::assignedOrNothing);
        Due.sentence("a's promised ballot becomes the term's, if it is less (a writes the promise first)",
            Edges06VoteTest::raisesThePromise);
        Due.sentence("a writes the vote", Edges06VoteTest::writesTheVote);
        Due.sentence("-4 if it goes down in one of these", Edges06VoteTest::goesDown);
        Due.sentence("the fixed command stays, if n is another", Edges06VoteTest::fixedStays);
        Due.sentence("if n is another: the leader itself goes down", Edges06VoteTest::leaderGoesDown);
        Due.sentence("a is one of the voters", Edges06VoteTest::voters);
        Due.sentence("if these are a majority, the command is chosen at n", Edges06VoteTest::chosen);
        Due.sentence("Answers 1, or 2 if it was chosen by this (and not before)", Edges06VoteTest::notBefore);
        Due.sentence("the refusals in their order", Edges06VoteTest::order);
        Due.end();
    }

    /** Node 0 of three leads with ballot 8, by nodes 0 and 1; request 1 is assigned to slot 1. */
    private static ScarredLog ready() {
        ScarredLog x = Due.led(3, 0, 0, 1);
        x.ask(0, 5);
        Due.is("route(1, 0)", x.route(1, 0), 1);
        return x;
    }

    private static void itself() {
        ScarredLog x = ready();
        Due.is("vote(0, 0, 1)", x.vote(0, 0, 1), 1);
        Due.is("slot(0, 1)", x.slot(0, 1), 513);
        // It is no voter by leading alone, nor by promising.
        ScarredLog y = ready();
        Due.is("vote(0, 1, 1)", y.vote(0, 1, 1), 1);
        Due.is("slot(0, 1)", y.slot(0, 1), 0);
    }

    private static void noSuchNode() {
        for (int size : new int[] {3, 5}) {
            ScarredLog x = Due.led(size, 0, 0, 1, 2);
            for (int n : Due.noNodes(size)) {
                Due.is("vote(" + n + ", 0, 1)", x.vote(n, 0, 1), -1);
                Due.is("vote(0, " + n + ", 1)", x.vote(0, n, 1), -1);
            }
            x.ask(0, 1);
            Due.is("route(1, 0): nothing was fixed", x.route(1, 0), 1);
        }
    }

    private static void noSuchSlot() {
        ScarredLog x = ready();
        for (int s : Due.noSlots()) {
            Due.is("vote(0, 0, " + s + ")", x.vote(0, 0, s), -1);
        }
        Due.is("vote(0, 0, 1)", x.vote(0, 0, 1), 1);
        Due.is("vote(0, 0, 8)", x.vote(0, 0, 8), 1);
    }

    private static void down() {
        ScarredLog x = ready();
        x.crash(0);
        Due.is("vote(0, 1, 1)", x.vote(0, 1, 1), 0);
        Due.is("vote(0, 0, 1)", x.vote(0, 0, 1), 0);
        Due.is("slot(1, 1)", x.slot(1, 1), 0);
    }

    private static void noTerm() {
        ScarredLog x = ready();
        Due.is("vote(1, 1, 1)", x.vote(1, 1, 1), 0);
        Due.scar(x, 0);
        Due.is("vote(0, 1, 1): its term is lost", x.vote(0, 1, 1), 0);
        Due.is("slot(1, 1)", x.slot(1, 1), 0);
    }

    private static void noMajority() {
        ScarredLog x = new ScarredLog(5);
        x.lead(3);
        for (int count = 0; count <= 2; count++) {
            Due.is("vote(3, 3, 1) with " + count, x.vote(3, 3, 1), 0);
            x.promise(3, count);
        }
        Due.is("slot(3, 1)", x.slot(3, 1), 0);
        Due.is("vote(3, 3, 1) with three of five", x.vote(3, 3, 1), 1);
        ScarredLog y = Due.led(3, 1, 2);
        Due.is("vote(1, 2, 1) with one of three", y.vote(1, 2, 1), 0);
        Due.is("promise(1, 0)", y.promise(1, 0), 1);
        Due.is("vote(1, 2, 1) with two of three", y.vote(1, 2, 1), 1);
    }

    private static void askedDown() {
        ScarredLog x = ready();
        x.crash(1);
        Due.is("vote(0, 1, 1)", x.vote(0, 1, 1), -2);
        Due.is("vote(0, 1, 2)", x.vote(0, 1, 2), -2);
        Due.sector(x, 1, 2, 0, 0, 0, 0);
        x.ask(0, 6);
        Due.is("route(2, 0): slot 2 was not fixed", x.route(2, 0), 2);
        // One that has voted stays a voter.
        ScarredLog y = ready();
        Due.votes(y, 0, 1, 1);
        y.crash(1);
        Due.is("vote(0, 1, 1)", y.vote(0, 1, 1), -2);
        Due.is("vote(0, 0, 1)", y.vote(0, 0, 1), 2);
    }

    private static void askedMute() {
        ScarredLog x = ready();
        Due.mute(x, 2);
        Due.is("vote(0, 2, 2)", x.vote(0, 2, 2), -2);
        Due.is("slot(2, 2)", x.slot(2, 2), 0);
        Due.is("look(2, 1)", x.look(2, 1), 1);
        x.ask(0, 6);
        Due.is("route(2, 0): slot 2 was not fixed", x.route(2, 0), 2);
    }

    private static void greater() {
        ScarredLog x = ready();
        Due.is("vote(0, 1, 1): just that ballot", x.vote(0, 1, 1), 1);
        Due.is("lead(1): the next one above", x.lead(1), 9);
        Due.is("vote(0, 1, 1)", x.vote(0, 1, 1), -3);
        Due.is("vote(0, 1, 2)", x.vote(0, 1, 2), -3);
        Due.is("slot(1, 2)", x.slot(1, 2), 0);
        x.ask(0, 6);
        Due.is("route(2, 0): slot 2 was not fixed", x.route(2, 0), 2);
        Due.is("promise(1, 0)", x.promise(1, 0), 1);
        Due.is("vote(0, 0, 1): itself", x.vote(0, 0, 1), -3);
        Due.is("chosen(0, 1)", x.chosen(0, 1), -1);
        // One that has voted stays a voter.
        Due.is("vote(0, 2, 1)", x.vote(0, 2, 1), 2);
    }

    private static void blocked() {
        ScarredLog x = ready();
        Due.votes(x, 0, 1, 1);
        Due.scar(x, 1, 2);
        Due.begin(x, 2, 1, 2);
        Due.is("vote(2, 2, 1)", x.vote(2, 2, 1), -5);
        Due.is("vote(2, 0, 1): of any node", x.vote(2, 0, 1), -5);
        Due.is("look(0, 2): which does not promise by that", x.look(0, 2), 8);
        Due.is("slot(2, 1)", x.slot(2, 1), 0);
        Due.is("vote(2, 2, 2): just that slot", x.vote(2, 2, 2), 1);
        // Nothing was fixed: when the slot is free, what is assigned comes in.
        Due.is("promise(2, 0)", x.promise(2, 0), 1);
        Due.is("plan(2, 1)", x.plan(2, 1), -3);
        Due.is("vote(2, 2, 1)", x.vote(2, 2, 1), 1);
    }

    private static void blockedButFixed() {
        ScarredLog x = ready();
        Due.votes(x, 0, 1, 1);
        Due.scar(x, 1, 2);
        Due.is("promise(0, 1)", x.promise(0, 1), 1);
        Due.is("plan(0, 1)", x.plan(0, 1), -2);
        Due.is("vote(0, 0, 1)", x.vote(0, 0, 1), 2);
        Due.is("chosen(0, 1)", x.chosen(0, 1), 1);
    }

    private static void becomesThePlan() {
        ScarredLog x = ready();
        x.ask(0, 6);
        Due.votes(x, 0, 1, 2);
        Due.begin(x, 1, 0, 1);
        Due.is("route(2, 1)", x.route(2, 1), 1);
        Due.is("promise(1, 2)", x.promise(1, 2), 1);
        Due.is("vote(1, 0, 1): not the assigned request", x.vote(1, 0, 1), 1);
        Due.is("slot(0, 1)", x.slot(0, 1), 64 * 9 + 1);
        // NOTHING as a plan goes before the assigned request, too.
        ScarredLog y = Due.led(3, 0, 0, 1);
        y.ask(0, 6);
        Due.votes(y, 0, 1, 2);
        Due.begin(y, 1, 0, 1);
        Due.is("route(1, 1)", y.route(1, 1), 1);
        Due.is("promise(1, 2)", y.promise(1, 2), 1);
        Due.is("plan(1, 1)", y.plan(1, 1), 0);
        Due.is("vote(1, 0, 1)", y.vote(1, 0, 1), 1);
        Due.is("slot(0, 1)", y.slot(0, 1), 64 * 9);
        // What is fixed stays, though the plan is another one now.
        ScarredLog z = ready();
        z.ask(0, 6);
        Due.votes(z, 0, 1, 2);
        Due.begin(z, 1, 0, 1);
        Due.is("route(2, 1)", z.route(2, 1), 1);
        Due.votes(z, 1, 1, 0);
        Due.is("promise(1, 2)", z.promise(1, 2), 1);
        Due.is("plan(1, 1)", z.plan(1, 1), 1);
        Due.is("vote(1, 2, 1)", z.vote(1, 2, 1), 2);
        Due.is("chosen(1, 1)", z.chosen(1, 1), 2);
        // So does a fixed NOTHING.
        ScarredLog w = ready();
        Due.votes(w, 0, 1, 2);
        Due.begin(w, 1, 0, 1);
        Due.votes(w, 1, 1, 0);
        Due.is("promise(1, 2)", w.promise(1, 2), 1);
        Due.is("plan(1, 1)", w.plan(1, 1), 1);
        Due.is("vote(1, 1, 1)", w.vote(1, 1, 1), 2);
        Due.is("chosen(1, 1)", w.chosen(1, 1), 0);
    }

    private static void assignedOrNothing() {
        ScarredLog x = ready();
        Due.is("vote(0, 0, 1)", x.vote(0, 0, 1), 1);
        Due.is("slot(0, 1): the request", x.slot(0, 1), 513);
        Due.is("vote(0, 0, 2)", x.vote(0, 0, 2), 1);
        Due.is("slot(0, 2): NOTHING", x.slot(0, 2), 512);
        x.ask(0, 6);
        Due.is("route(2, 0): not to a fixed slot", x.route(2, 0), 3);
        Due.is("vote(0, 1, 2): NOTHING stays", x.vote(0, 1, 2), 2);
        Due.is("chosen(0, 2)", x.chosen(0, 2), 0);
    }

    private static void raisesThePromise() {
        ScarredLog x = ready();
        Due.is("vote(0, 2, 1): promised 0", x.vote(0, 2, 1), 1);
        Due.is("look(2, 2)", x.look(2, 2), 8);
        Due.sector(x, 2, 0, 0, 0, 0, 8);
        Due.sector(x, 2, 1, 0, 0, 0, 8);
        Due.is("look(0, 4): no promiser by that", x.look(0, 4), 3);
        // If it has promised just that, the promise is not written again.
        Due.yes("arm(1, 2)", x.arm(1, 2));
        Due.is("vote(0, 1, 1)", x.vote(0, 1, 1), 2);
        Due.is("look(1, 6): two sectors alone", x.look(1, 6), 0);
        // The promise is written before the vote, so it is there if the vote is cut off.
        ScarredLog y = ready();
        Due.yes("arm(2, 2)", y.arm(2, 2));
        Due.is("vote(0, 2, 1)", y.vote(0, 2, 1), -4);
        y.restart(2);
        Due.is("look(2, 2)", y.look(2, 2), 8);
        Due.is("slot(2, 1)", y.slot(2, 1), 0);
    }

    private static void writesTheVote() {
        ScarredLog x = ready();
        Due.votes(x, 0, 1, 1);
        Due.votes(x, 0, 8, 1);
        Due.sector(x, 1, 2, 1, 1, 0, 8);
        Due.sector(x, 1, 3, 1, 0, 0, 8);
        Due.sector(x, 1, 4, 0, 0, 0, 0);
        Due.sector(x, 1, 15, 0, 0, 0, 0);
        Due.sector(x, 1, 16, 8, 0, 0, 8);
        Due.sector(x, 1, 17, 8, 0, 0, 8);
        Due.sector(x, 0, 2, 0, 0, 0, 0);
        // Again when it has voted before: each time both sectors.
        Due.yes("wipe(1, 3)", x.wipe(1, 3));
        Due.votes(x, 0, 1, 1);
        Due.sector(x, 1, 3, 1, 0, 0, 8);
    }

    /** Armed with 0 .. 4: in the promise's first sector, its second, the entry, the marker, not at all. */
    private static void goesDown() {
        for (int k = 0; k <= 4; k++) {
            ScarredLog x = ready();
            Due.yes("arm(2, " + k + ")", x.arm(2, k));
            Due.is("vote(0, 2, 1) armed with " + k, x.vote(0, 2, 1), k == 4 ? 1 : -4);
            Due.is("look(2, 0)", x.look(2, 0), k == 4 ? 1 : 0);
            x.restart(2);
            Due.is("look(2, 2)", x.look(2, 2), k == 0 ? 0 : 8);
            Due.is("slot(2, 1)", x.slot(2, 1), k < 3 ? 0 : 513);
            Due.is("vote(0, 0, 1): 2 with the vote before", x.vote(0, 0, 1), k == 4 ? 2 : 1);
        }
    }

    private static void fixedStays() {
        for (int k = 0; k <= 3; k++) {
            ScarredLog x = Due.led(3, 0, 0, 1);
            Due.yes("arm(2, " + k + ")", x.arm(2, k));
            Due.is("vote(0, 2, 1)", x.vote(0, 2, 1), -4);
            x.ask(0, 5);
            Due.is("route(1, 0): slot 1 is fixed", x.route(1, 0), 2);
            Due.is("vote(0, 0, 1)", x.vote(0, 0, 1), 1);
            Due.is("slot(0, 1)", x.slot(0, 1), 512);
            Due.is("look(0, 4): so do the promisers", x.look(0, 4), 3);
        }
        // Nor does a plan that is told later change it.
        ScarredLog y = ready();
        y.ask(0, 6);
        Due.votes(y, 0, 1, 2);
        Due.begin(y, 1, 0, 1);
        Due.is("route(2, 1)", y.route(2, 1), 1);
        Due.yes("arm(0, 0)", y.arm(0, 0));
        Due.is("vote(1, 0, 1)", y.vote(1, 0, 1), -4);
        Due.is("promise(1, 2)", y.promise(1, 2), 1);
        Due.is("plan(1, 1)", y.plan(1, 1), 1);
        Due.is("vote(1, 1, 1)", y.vote(1, 1, 1), 1);
        Due.is("slot(1, 1)", y.slot(1, 1), 64 * 9 + 2);
    }

    private static void leaderGoesDown() {
        ScarredLog x = ready();
        Due.votes(x, 0, 1, 1);
        Due.yes("arm(0, 1)", x.arm(0, 1));
        Due.is("vote(0, 0, 1)", x.vote(0, 0, 1), -4);
        Due.is("look(0, 0)", x.look(0, 0), 0);
        x.restart(0);
        Due.is("slot(0, 1): its entry is whole", x.slot(0, 1), 513);
        Due.is("chosen(0, 1)", x.chosen(0, 1), -1);
        Due.is("look(0, 3): no term", x.look(0, 3), 0);
        // Nor is anything of it left in the next term.
        Due.is("lead(0)", x.lead(0), 16);
        Due.is("look(0, 4)", x.look(0, 4), 0);
        Due.is("promise(0, 0)", x.promise(0, 0), 1);
        Due.is("promise(0, 2)", x.promise(0, 2), 1);
        Due.is("vote(0, 2, 1)", x.vote(0, 2, 1), 1);
    }

    private static void voters() {
        ScarredLog x = Due.led(5, 0, 0, 1, 2);
        for (int i = 0; i < 4; i++) {
            Due.is("vote(0, 3, 1): a set", x.vote(0, 3, 1), 1);
        }
        Due.is("vote(0, 4, 2): of each slot its own", x.vote(0, 4, 2), 1);
        Due.is("vote(0, 0, 2)", x.vote(0, 0, 2), 1);
        Due.is("vote(0, 0, 1)", x.vote(0, 0, 1), 1);
        x.crash(3);
        Due.is("vote(0, 1, 1): one that went down stays in it", x.vote(0, 1, 1), 2);
    }

    private static void chosen() {
        for (int size : new int[] {3, 5}) {
            ScarredLog x = Due.led(size, 0, 0, 1, 2);
            int least = size / 2 + 1;
            for (int count = 1; count <= size; count++) {
                Due.is("vote", x.vote(0, count - 1, 8), count == least ? 2 : 1);
                Due.is("chosen(0, 8)", x.chosen(0, 8), count < least ? -1 : 0);
            }
            Due.is("chosen(1, 8): at n alone", x.chosen(1, 8), -1);
        }
    }

    private static void notBefore() {
        ScarredLog x = ready();
        Due.is("vote(0, 0, 1)", x.vote(0, 0, 1), 1);
        Due.is("vote(0, 1, 1)", x.vote(0, 1, 1), 2);
        Due.is("vote(0, 1, 1) again", x.vote(0, 1, 1), 1);
        Due.is("vote(0, 2, 1): the third", x.vote(0, 2, 1), 1);
        // Chosen in an earlier term, or told by another node.
        Due.begin(x, 0, 0, 1);
        Due.votes(x, 0, 1, 0);
        Due.is("vote(0, 1, 1)", x.vote(0, 1, 1), 1);
        Due.is("lead(2)", x.lead(2), 10);
        Due.begin(x, 2, 1, 2);
        Due.is("tell(0, 2)", x.tell(0, 2), 1);
        Due.votes(x, 2, 1, 1);
        Due.is("vote(2, 2, 1)", x.vote(2, 2, 1), 1);
        // Forgotten meanwhile, it is chosen by this.
        Due.scar(x, 0);
        Due.begin(x, 0, 0, 1);
        Due.is("vote(0, 0, 1)", x.vote(0, 0, 1), 1);
        Due.is("vote(0, 1, 1)", x.vote(0, 1, 1), 2);
    }

    private static void order() {
        ScarredLog x = new ScarredLog(3);
        x.crash(0);
        Due.is("vote(0, 1, 9): no such slot, from one that is down", x.vote(0, 1, 9), -1);
        Due.is("vote(0, 3, 1): no such node, from one that is down", x.vote(0, 3, 1), -1);
        x.lead(1);
        Due.is("vote(1, 0, 1): no majority, of one that is down", x.vote(1, 0, 1), 0);
        x.lead(2);
        Due.is("vote(1, 2, 1): no majority, of one that promised more", x.vote(1, 2, 1), 0);
        ScarredLog y = Due.led(3, 0, 0, 1);
        Due.votes(y, 0, 1, 1);
        Due.scar(y, 1, 2);
        Due.begin(y, 0, 0, 1);
        y.lead(2);
        y.lead(2);
        Due.is("vote(0, 1, 1): blocked", y.vote(0, 1, 1), -5);
        Due.is("vote(0, 2, 1): promised more, and blocked", y.vote(0, 2, 1), -3);
        y.crash(2);
        Due.is("vote(0, 2, 1): down, and blocked", y.vote(0, 2, 1), -2);
        Due.is("vote(0, 2, 2): down, promised more", y.vote(0, 2, 2), -2);
        Due.yes("arm(1, 0)", y.arm(1, 0));
        Due.is("vote(0, 1, 1): blocked, so nothing is written", y.vote(0, 1, 1), -5);
        Due.is("look(1, 0)", y.look(1, 0), 1);
    }
}
