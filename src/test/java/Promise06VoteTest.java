public final class Promise06VoteTest {
    public static void main(String[] args) {
        ordinary();
        refusals();
        blockedOrFixed();
        fixesThePlan();
        raisesThePromise();
        goesDown();
        leaderGoesDown();
        chosenBefore();
        Due.end();
    }

    private static void ordinary() {
        ScarredLog x = Due.led(5, 4, 0, 1, 4);
        x.ask(0, 9);
        x.route(1, 4);
        Due.is("vote(4, 4, 1)", x.vote(4, 4, 1), 1);
        Due.is("vote(4, 4, 1) again", x.vote(4, 4, 1), 1);
        Due.is("vote(4, 2, 1)", x.vote(4, 2, 1), 1);
        Due.is("chosen(4, 1)", x.chosen(4, 1), -1);
        Due.is("vote(4, 1, 1)", x.vote(4, 1, 1), 2);
        Due.is("chosen(4, 1)", x.chosen(4, 1), 1);
        Due.is("vote(4, 0, 1)", x.vote(4, 0, 1), 1);
        Due.is("vote(4, 1, 1)", x.vote(4, 1, 1), 1);
        Due.is("chosen(1, 1): only at the leader", x.chosen(1, 1), -1);
        Due.sector(x, 1, 2, 1, 1, 0, 12);
        Due.sector(x, 1, 3, 1, 0, 0, 12);
        Due.is("slot(1, 1)", x.slot(1, 1), 64 * 12 + 1);
        Due.is("vote(4, 0, 8): nothing", x.vote(4, 0, 8), 1);
        Due.sector(x, 0, 16, 8, 0, 0, 12);
        Due.sector(x, 0, 17, 8, 0, 0, 12);
        Due.is("slot(0, 8)", x.slot(0, 8), 64 * 12);
    }

    private static void refusals() {
        ScarredLog x = Due.led(3, 0, 0, 1);
        x.lead(2);
        String before = Due.sight(x);
        Due.is("vote(-1, 0, 1)", x.vote(-1, 0, 1), -1);
        Due.is("vote(3, 0, 1)", x.vote(3, 0, 1), -1);
        Due.is("vote(0, -1, 1)", x.vote(0, -1, 1), -1);
        Due.is("vote(0, 3, 1)", x.vote(0, 3, 1), -1);
        Due.is("vote(0, 0, 0)", x.vote(0, 0, 0), -1);
        Due.is("vote(0, 0, 9)", x.vote(0, 0, 9), -1);
        Due.is("vote(1, 0, 1): no term", x.vote(1, 0, 1), 0);
        Due.is("vote(2, 2, 1): no majority", x.vote(2, 2, 1), 0);
        Due.is("vote(0, 2, 1): 2 promised 10", x.vote(0, 2, 1), -3);
        Due.same("vote", before, x);
        x.promise(2, 0);
        Due.is("vote(0, 0, 1): itself, outbid", x.vote(0, 0, 1), -3);
        x.crash(1);
        Due.is("vote(0, 1, 1): down", x.vote(0, 1, 1), -2);
        x.wipe(1, 0);
        x.wipe(1, 1);
        x.restart(1);
        Due.is("vote(0, 1, 1): mute", x.vote(0, 1, 1), -2);
        // None of these fixed anything.
        x.ask(0, 1);
        Due.is("route(1, 0)", x.route(1, 0), 1);
        x.crash(0);
        Due.is("vote(0, 2, 1): the leader is down", x.vote(0, 2, 1), 0);
    }

    private static void blockedOrFixed() {
        ScarredLog x = Due.led(3, 0, 0, 1);
        Due.votes(x, 0, 1, 1);
        Due.scar(x, 1, 2);
        Due.is("promise(0, 1)", x.promise(0, 1), 1);
        Due.is("plan(0, 1)", x.plan(0, 1), -2);
        Due.is("vote(0, 0, 1): fixed before it was blocked", x.vote(0, 0, 1), 2);
        Due.scar(x, 0, 2);
        Due.begin(x, 2, 2, 1);
        String before = Due.sight(x);
        Due.is("vote(2, 2, 1)", x.vote(2, 2, 1), -5);
        Due.is("vote(2, 0, 1)", x.vote(2, 0, 1), -5);
        Due.same("vote(2, 2, 1)", before, x);
        x.lead(1);
        x.crash(0);
        Due.is("vote(2, 0, 1): down goes before blocked", x.vote(2, 0, 1), -2);
        Due.is("vote(2, 2, 2): another slot is not blocked", x.vote(2, 2, 2), 1);
        outbidBeforeBlocked();
    }

    private static void outbidBeforeBlocked() {
        ScarredLog x = Due.led(3, 0, 0, 1);
        Due.votes(x, 0, 1, 1);
        Due.scar(x, 1, 2);
        Due.begin(x, 0, 0, 1);
        x.lead(2);
        Due.is("lead(2)", x.lead(2), 18);
        Due.is("vote(0, 1, 1)", x.vote(0, 1, 1), -5);
        Due.is("vote(0, 2, 1)", x.vote(0, 2, 1), -3);
    }

    private static void fixesThePlan() {
        ScarredLog x = Due.led(3, 0, 0, 1);
        x.ask(0, 1);
        x.ask(0, 2);
        x.route(1, 0);
        Due.votes(x, 0, 1, 2);
        Due.begin(x, 1, 0, 1);
        Due.is("route(2, 1)", x.route(2, 1), 1);
        x.promise(1, 2);
        Due.is("vote(1, 0, 1): the plan goes before the assigned one", x.vote(1, 0, 1), 1);
        Due.is("slot(0, 1)", x.slot(0, 1), 64 * 9 + 1);
        // A fixed command stays, whatever is told later.
        ScarredLog y = Due.led(3, 0, 0, 1);
        y.ask(0, 1);
        y.ask(0, 2);
        y.route(1, 0);
        Due.votes(y, 0, 1, 2);
        Due.begin(y, 1, 0, 1);
        y.route(2, 1);
        Due.votes(y, 1, 1, 0);
        Due.is("promise(1, 2)", y.promise(1, 2), 1);
        Due.is("plan(1, 1)", y.plan(1, 1), 1);
        Due.is("vote(1, 1, 1)", y.vote(1, 1, 1), 2);
        Due.is("chosen(1, 1)", y.chosen(1, 1), 2);
        // NOTHING is a fixed command too: a request assigned to no slot does not come in.
        ScarredLog z = Due.led(3, 0, 0, 1);
        z.ask(0, 1);
        Due.votes(z, 0, 1, 1);
        Due.is("route(1, 0)", z.route(1, 0), 2);
        Due.is("vote(0, 0, 1)", z.vote(0, 0, 1), 2);
        Due.is("chosen(0, 1)", z.chosen(0, 1), 0);
    }

    private static void raisesThePromise() {
        ScarredLog x = Due.led(3, 0, 0, 1);
        x.arm(1, 9);
        x.arm(2, 9);
        Due.is("vote(0, 2, 1)", x.vote(0, 2, 1), 1);
        Due.is("look(2, 2)", x.look(2, 2), 8);
        Due.is("look(2, 6): four sectors", x.look(2, 6), 5);
        Due.sector(x, 2, 0, 0, 0, 0, 8);
        Due.sector(x, 2, 1, 0, 0, 0, 8);
        Due.is("look(0, 4): no promiser by that", x.look(0, 4), 3);
        Due.is("vote(0, 1, 1)", x.vote(0, 1, 1), 2);
        Due.is("look(1, 6): two sectors", x.look(1, 6), 7);
    }

    /** One more sector is written whole each time: 0, 1, the entry, the marker. */
    private static void goesDown() {
        for (int k = 0; k <= 4; k++) {
            ScarredLog x = Due.led(3, 0, 0, 1);
            x.ask(0, 5);
            x.route(1, 0);
            x.arm(2, k);
            Due.is("vote(0, 2, 1) armed with " + k, x.vote(0, 2, 1), k == 4 ? 1 : -4);
            Due.is("look(2, 0)", x.look(2, 0), k == 4 ? 1 : 0);
            Due.is("look(2, 6)", x.look(2, 6), k == 4 ? 0 : -1);
            part(x, 0, k, 0, 0, 0, 0, 8);
            part(x, 1, k, 1, 0, 0, 0, 8);
            part(x, 2, k, 2, 1, 1, 0, 8);
            part(x, 3, k, 3, 1, 0, 0, 8);
            x.restart(2);
            Due.is("look(2, 2)", x.look(2, 2), k == 0 ? 0 : 8);
            Due.is("slot(2, 1)", x.slot(2, 1), k < 3 ? 0 : 513);
            // It was no voter if it went down; the fixed command stayed.
            Due.is("vote(0, 0, 1)", x.vote(0, 0, 1), k == 4 ? 2 : 1);
            Due.is("slot(0, 1)", x.slot(0, 1), 513);
        }
    }

    private static void part(ScarredLog x, int sector, int armed, int before, int... content) {
        if (armed > before) {
            Due.sector(x, 2, sector, content);
        } else if (armed == before) {
            Due.sector(x, 2, sector, content[0], content[1], content[2], content[3], 255, 255, 255, 255);
        } else {
            Due.sector(x, 2, sector, 0, 0, 0, 0);
        }
    }

    private static void leaderGoesDown() {
        ScarredLog x = Due.led(3, 0, 0, 1);
        Due.votes(x, 0, 1, 1);
        x.arm(0, 1);
        Due.is("vote(0, 0, 1)", x.vote(0, 0, 1), -4);
        Due.is("look(0, 0)", x.look(0, 0), 0);
        Due.is("look(0, 3)", x.look(0, 3), 0);
        x.restart(0);
        Due.is("chosen(0, 1)", x.chosen(0, 1), -1);
        Due.is("slot(0, 1): its entry is whole", x.slot(0, 1), 512);
        Due.is("vote(0, 1, 1)", x.vote(0, 1, 1), 0);
    }

    private static void chosenBefore() {
        ScarredLog x = Due.led(3, 0, 0, 1);
        Due.votes(x, 0, 1, 0, 1);
        Due.begin(x, 1, 1, 2);
        Due.is("tell(0, 1)", x.tell(0, 1), 1);
        Due.is("vote(1, 1, 1)", x.vote(1, 1, 1), 1);
        Due.is("vote(1, 2, 1): it was told before", x.vote(1, 2, 1), 1);
        Due.is("chosen(1, 1)", x.chosen(1, 1), 0);
        // What was chosen stays over a new term of the same node.
        Due.begin(x, 1, 1, 2);
        Due.is("chosen(1, 1)", x.chosen(1, 1), 0);
        Due.is("vote(1, 1, 1)", x.vote(1, 1, 1), 1);
        Due.is("vote(1, 2, 1)", x.vote(1, 2, 1), 1);
        // Promisers that go down stay promisers, and voters stay voters.
        ScarredLog y = Due.led(3, 0, 0, 1);
        Due.votes(y, 0, 1, 1);
        y.crash(1);
        Due.is("look(0, 4)", y.look(0, 4), 3);
        Due.is("vote(0, 0, 1)", y.vote(0, 0, 1), 2);
    }
}
