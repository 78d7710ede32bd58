public final class Promise16PlanTest {
    public static void main(String[] args) {
        wrongInputs();
        greatestBallot();
        damagedNotAbove();
        damagedAbove();
        soundMajority();
        unknownBallot();
        Due.end();
    }

    private static void wrongInputs() {
        ScarredLog x = new ScarredLog(3);
        Due.is("plan(0, 1): no term", x.plan(0, 1), -1);
        x.lead(0);
        x.promise(0, 0);
        Due.is("plan(0, 1): no majority", x.plan(0, 1), -1);
        x.promise(0, 1);
        Due.is("plan(0, 1)", x.plan(0, 1), -3);
        Due.is("plan(0, 8)", x.plan(0, 8), -3);
        Due.is("plan(0, 0)", x.plan(0, 0), -1);
        Due.is("plan(0, 9)", x.plan(0, 9), -1);
        Due.is("plan(-1, 1)", x.plan(-1, 1), -1);
        Due.is("plan(3, 1)", x.plan(3, 1), -1);
        Due.is("plan(1, 1)", x.plan(1, 1), -1);
        x.crash(0);
        Due.is("plan(0, 1): down", x.plan(0, 1), -1);
        x.restart(0);
        Due.is("plan(0, 1): no term any more", x.plan(0, 1), -1);
    }

    /** Node 0 votes for request 1 at ballot 8, node 1 for request 2 at ballot 9, both for slot 1. */
    private static ScarredLog divided() {
        ScarredLog x = Due.led(5, 0, 0, 3, 4);
        x.ask(0, 1);
        x.ask(0, 2);
        x.route(1, 0);
        Due.votes(x, 0, 1, 0);
        Due.begin(x, 1, 1, 3, 4);
        x.route(2, 1);
        Due.votes(x, 1, 1, 1);
        return x;
    }

    private static void greatestBallot() {
        ScarredLog x = divided();
        Due.begin(x, 2, 2, 3, 4);
        Due.is("plan(2, 1)", x.plan(2, 1), -3);
        x.promise(2, 0);
        Due.is("plan(2, 1)", x.plan(2, 1), 1);
        x.promise(2, 1);
        Due.is("plan(2, 1)", x.plan(2, 1), 2);
        ScarredLog y = divided();
        Due.begin(y, 2, 1, 3, 4);
        Due.is("plan(2, 1)", y.plan(2, 1), 2);
        y.promise(2, 0);
        Due.is("plan(2, 1)", y.plan(2, 1), 2);
        // The greatest, not the last one told, nor that of the highest node.
        ScarredLog w = Due.led(5, 1, 1, 3, 4);
        w.ask(0, 1);
        w.ask(0, 2);
        w.route(1, 1);
        Due.votes(w, 1, 1, 1);
        w.lead(0);
        Due.begin(w, 0, 0, 3, 4);
        Due.is("route(2, 0)", w.route(2, 0), 1);
        Due.votes(w, 0, 1, 0);
        w.lead(2);
        Due.begin(w, 2, 0, 2, 1);
        Due.is("plan(2, 1)", w.plan(2, 1), 2);
        // NOTHING with a ballot is a plan of its own.
        ScarredLog z = Due.led(3, 0, 0, 1);
        Due.votes(z, 0, 1, 1);
        Due.begin(z, 2, 2, 1);
        Due.is("plan(2, 1)", z.plan(2, 1), 0);
        Due.is("plan(2, 2)", z.plan(2, 2), -3);
    }

    private static void damagedNotAbove() {
        ScarredLog x = divided();
        Due.scar(x, 0, 2);
        Due.begin(x, 2, 0, 1, 3);
        Due.is("plan(2, 1): 8 is not above 9", x.plan(2, 1), 2);
        // Just as great is not above.
        ScarredLog y = Due.led(3, 0, 0, 1);
        Due.votes(y, 0, 1, 0, 1);
        Due.scar(y, 0, 2);
        Due.begin(y, 1, 0, 1);
        Due.is("plan(1, 1)", y.plan(1, 1), 0);
    }

    private static void damagedAbove() {
        ScarredLog x = divided();
        Due.scar(x, 1, 2);
        Due.begin(x, 2, 0, 1, 3);
        Due.is("plan(2, 1): 9 is above 8", x.plan(2, 1), -2);
        Due.is("plan(2, 2): just that slot", x.plan(2, 2), -3);
        x.promise(2, 4);
        Due.is("plan(2, 1): three are sound", x.plan(2, 1), 1);
        ScarredLog y = divided();
        Due.scar(y, 0, 2);
        Due.begin(y, 2, 0, 2, 3);
        Due.is("plan(2, 1): no vote is told", y.plan(2, 1), -2);
        // One of two that told it damaged is above.
        Due.scar(y, 3);
        Due.votes(y, 1, 1, 4);
        Due.scar(y, 1, 2);
        Due.begin(y, 2, 0, 1, 3);
        Due.is("plan(2, 1)", y.plan(2, 1), -2);
        y.promise(2, 4);
        Due.is("plan(2, 1)", y.plan(2, 1), 2);
    }

    private static void soundMajority() {
        ScarredLog x = Due.led(3, 0, 0, 1);
        Due.votes(x, 0, 1, 1);
        Due.scar(x, 1, 2);
        Due.begin(x, 2, 1, 2);
        Due.is("plan(2, 1)", x.plan(2, 1), -2);
        x.promise(2, 0);
        Due.is("plan(2, 1): two are empty", x.plan(2, 1), -3);
        // Half is no majority.
        ScarredLog y = Due.led(5, 0, 0, 1, 2);
        Due.votes(y, 0, 1, 1, 2);
        Due.scar(y, 1, 2);
        Due.scar(y, 2, 2);
        Due.begin(y, 4, 1, 2, 3, 4);
        Due.is("plan(4, 1)", y.plan(4, 1), -2);
        y.promise(4, 0);
        Due.is("plan(4, 1)", y.plan(4, 1), -3);
    }

    private static void unknownBallot() {
        ScarredLog x = divided();
        Due.scar(x, 0, 2, 3);
        Due.begin(x, 2, 0, 1, 3);
        Due.is("plan(2, 1)", x.plan(2, 1), -2);
        x.promise(2, 4);
        Due.is("plan(2, 1)", x.plan(2, 1), 2);
        // The plan is told of a fixed slot too.
        Due.votes(x, 2, 1, 0);
        Due.is("plan(2, 1)", x.plan(2, 1), 2);
        x.promise(2, 2);
        Due.is("look(2, 4)", x.look(2, 4), 31);
    }
}
