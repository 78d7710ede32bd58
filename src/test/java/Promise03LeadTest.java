public final class Promise03LeadTest {
    public static void main(String[] args) {
        ballots();
        writesThePromise();
        refusals();
        goesDown();
        inPlaceOfTheOldTerm();
        greatestBallot();
        Due.end();
    }

    /** No 512 calls come that far; the edge is looked at all the same, as this program does not count calls. */
    private static void greatestBallot() {
        ScarredLog x = new ScarredLog(3);
        int last = 0;
        for (int i = 0; i < 7500; i++) {
            last = x.lead(0);
        }
        Due.is("lead(0)", last, 60000);
        Due.is("lead(0): 60008", x.lead(0), 0);
        Due.is("look(0, 3): the term that it has stays", x.look(0, 3), 60000);
        Due.is("promise(0, 1)", x.promise(0, 1), 1);
        Due.is("lead(1): 60001", x.lead(1), 0);
        Due.sector(x, 1, 1, 0, 0, 60000 / 256, 60000 % 256);
    }

    private static void ballots() {
        ScarredLog x = new ScarredLog(5);
        for (int n = 0; n < 5; n++) {
            Due.is("lead(" + n + ")", x.lead(n), 8 + n);
            Due.is("lead(" + n + ") again", x.lead(n), 16 + n);
        }
        // The least above the promised one, be that of a lower node, a higher one or its own.
        ScarredLog y = new ScarredLog(5);
        Due.is("lead(2)", y.lead(2), 10);
        Due.is("promise(2, 4)", y.promise(2, 4), 1);
        Due.is("promise(2, 0)", y.promise(2, 0), 1);
        Due.is("lead(4)", y.lead(4), 12);
        Due.is("lead(0)", y.lead(0), 16);
        ScarredLog z = new ScarredLog(3);
        int last = 0;
        for (int i = 1; i <= 60; i++) {
            last = z.lead(1);
            Due.is("lead(1)", last, 8 * i + 1);
        }
        Due.sector(z, 1, 0, 0, 0, last / 256, last % 256);
        Due.sector(z, 1, 1, 0, 0, last / 256, last % 256);
        Due.scar(z, 1, 0);
        Due.is("look(1, 2)", z.look(1, 2), last);
    }

    private static void writesThePromise() {
        ScarredLog x = new ScarredLog(3);
        Due.yes("arm(2, 5)", x.arm(2, 5));
        Due.is("lead(2)", x.lead(2), 10);
        Due.is("look(2, 6)", x.look(2, 6), 3);
        Due.is("look(2, 2)", x.look(2, 2), 10);
        Due.is("look(2, 3)", x.look(2, 3), 10);
        Due.is("look(2, 4)", x.look(2, 4), 0);
        Due.sector(x, 2, 0, 0, 0, 0, 10);
        Due.sector(x, 2, 1, 0, 0, 0, 10);
        Due.sector(x, 1, 0, 0, 0, 0, 0);
    }

    private static void refusals() {
        ScarredLog x = Due.led(3, 0, 0, 1);
        Due.votes(x, 0, 8, 1);
        Due.is("lead(-1)", x.lead(-1), -1);
        Due.is("lead(3)", x.lead(3), -1);
        Due.is("lead(max)", x.lead(Integer.MAX_VALUE), -1);
        Due.scar(x, 1, 16);
        Due.is("lead(1) with a damaged slot", x.lead(1), 0);
        Due.is("look(1, 3)", x.look(1, 3), 0);
        Due.is("mend(1, 0, 8)", x.mend(1, 0, 8), 0);
        Due.scar(x, 1, 17);
        Due.is("lead(1) with an unknown one", x.lead(1), 0);
        Due.is("vote(0, 1, 8)", x.vote(0, 1, 8), 1);
        Due.is("lead(1) when it is whole", x.lead(1), 9);
        x.crash(1);
        Due.is("lead(1) down", x.lead(1), 0);
        x.wipe(1, 0);
        x.wipe(1, 1);
        x.restart(1);
        Due.is("lead(1) mute", x.lead(1), 0);
    }

    private static void goesDown() {
        ScarredLog x = Due.led(3, 0, 0, 1);
        x.arm(0, 0);
        Due.is("lead(0) armed with 0", x.lead(0), -4);
        Due.is("look(0, 0)", x.look(0, 0), 0);
        Due.sector(x, 0, 0, 0, 0, 0, 16, 255, 255, 255, 247);
        Due.sector(x, 0, 1, 0, 0, 0, 8);
        x.restart(0);
        Due.is("look(0, 2)", x.look(0, 2), 8);
        Due.is("look(0, 3)", x.look(0, 3), 0);
        x.arm(0, 1);
        Due.is("lead(0) armed with 1", x.lead(0), -4);
        Due.sector(x, 0, 0, 0, 0, 0, 16);
        Due.sector(x, 0, 1, 0, 0, 0, 16, 255, 255, 255, 247);
        x.restart(0);
        Due.is("look(0, 2)", x.look(0, 2), 16);
        Due.is("lead(0)", x.lead(0), 24);
    }

    private static void inPlaceOfTheOldTerm() {
        ScarredLog x = Due.led(3, 0, 0, 1);
        x.ask(0, 1);
        x.ask(0, 2);
        Due.is("route(1, 0)", x.route(1, 0), 1);
        Due.is("vote(0, 2, 2)", x.vote(0, 2, 2), 1);
        Due.is("lead(0)", x.lead(0), 16);
        Due.is("look(0, 4)", x.look(0, 4), 0);
        Due.is("route(1, 0)", x.route(1, 0), 0);
        x.promise(0, 0);
        x.promise(0, 1);
        Due.is("plan(0, 2)", x.plan(0, 2), -3);
        Due.is("route(2, 0)", x.route(2, 0), 1);
        Due.is("vote(0, 1, 2)", x.vote(0, 1, 2), 1);
        Due.is("chosen(0, 2)", x.chosen(0, 2), -1);
        // A refusal leaves the term that it has.
        ScarredLog y = Due.led(3, 0, 0, 1);
        Due.is("lead(5)", y.lead(5), -1);
        Due.is("look(0, 3)", y.look(0, 3), 8);
        Due.is("look(0, 4)", y.look(0, 4), 3);
    }
}
