/** Promise 3, a test for each sentence that names a boundary. */
public final class Edges03LeadTest {
    public static void main(String[] args) {
        Due.sentence("Node n begins a term, in place of the one that it has", Edges03LeadTest::inPlace);
        Due.sentence("the ballot is its least above its promised ballot", Edges03LeadTest::leastAbove);
        Due.sentence("which that becomes", Edges03LeadTest::becomes);
        Due.sentence("it writes the promise", Edges03LeadTest::writes);
        Due.sentence("-4 if it goes down by that", Edges03LeadTest::goesDown);
        Due.sentence("-1: no such node", Edges03LeadTest::noSuchNode);
        Due.sentence("0: it is down", Edges03LeadTest::down);
        Due.sentence("0: it is .. mute", Edges03LeadTest::mute);
        Due.sentence("0: .. one of its slots is damaged", Edges03LeadTest::damaged);
        Due.sentence("0: .. or the ballot would be above 60000", Edges03LeadTest::above60000);
        Due.end();
    }

    /** Nothing of the old term is left: promisers, what they told, assigned, fixed, voters. */
    private static void inPlace() {
        ScarredLog x = Due.led(3, 0, 0, 1, 2);
        x.ask(0, 1);
        x.ask(0, 2);
        Due.is("route(1, 0)", x.route(1, 0), 1);
        Due.votes(x, 0, 2, 2);
        Due.is("lead(0)", x.lead(0), 16);
        Due.is("look(0, 3)", x.look(0, 3), 16);
        Due.is("look(0, 4)", x.look(0, 4), 0);
        Due.is("plan(0, 1)", x.plan(0, 1), -1);
        Due.is("route(1, 0)", x.route(1, 0), 0);
        Due.is("vote(0, 1, 2)", x.vote(0, 1, 2), 0);
        Due.is("promise(0, 0)", x.promise(0, 0), 1);
        Due.is("promise(0, 1)", x.promise(0, 1), 1);
        Due.is("route(2, 0): slot 1 is not assigned, slot 2 not fixed", x.route(2, 0), 1);
        Due.is("vote(0, 1, 2): node 2 is no voter of it", x.vote(0, 1, 2), 1);
        Due.is("chosen(0, 2)", x.chosen(0, 2), -1);
    }

    private static void leastAbove() {
        ScarredLog x = new ScarredLog(5);
        Due.is("lead(0): above none", x.lead(0), 8);
        Due.is("promise(0, 3)", x.promise(0, 3), 1);
        Due.is("lead(3): above a lower node's", x.lead(3), 11);
        Due.is("promise(3, 1)", x.promise(3, 1), 1);
        Due.is("lead(1): above a higher node's", x.lead(1), 17);
        Due.is("lead(1): above its own", x.lead(1), 25);
        Due.is("promise(1, 0)", x.promise(1, 0), 1);
        Due.is("lead(0): above 25, just not 24", x.lead(0), 32);
        Due.is("promise(1, 2)", x.promise(1, 2), 1);
        Due.is("lead(2): above 25", x.lead(2), 26);
        // Its promised ballot, not that of its term.
        Due.is("promise(0, 2)", x.promise(0, 2), 1);
        Due.is("lead(2): above 32, though its term has 26", x.lead(2), 34);
    }

    private static void becomes() {
        ScarredLog x = new ScarredLog(3);
        Due.is("lead(2)", x.lead(2), 10);
        Due.is("look(2, 2)", x.look(2, 2), 10);
        Due.is("look(2, 3)", x.look(2, 3), 10);
        Due.is("lead(0)", x.lead(0), 8);
        Due.is("promise(0, 2): 10 is greater", x.promise(0, 2), -3);
        Due.is("promise(2, 2)", x.promise(2, 2), 1);
        Due.is("look(1, 2): no other's", x.look(1, 2), 0);
    }

    private static void writes() {
        ScarredLog x = new ScarredLog(3);
        Due.is("lead(2)", x.lead(2), 10);
        Due.sector(x, 2, 0, 0, 0, 0, 10);
        Due.sector(x, 2, 1, 0, 0, 0, 10);
        Due.sector(x, 2, 2, 0, 0, 0, 0);
        Due.scar(x, 2);
        Due.is("look(2, 2)", x.look(2, 2), 10);
    }

    private static void goesDown() {
        for (int k = 0; k <= 2; k++) {
            ScarredLog x = Due.led(3, 1);
            Due.yes("arm(1, " + k + ")", x.arm(1, k));
            Due.is("lead(1) armed with " + k, x.lead(1), k == 2 ? 17 : -4);
            Due.is("look(1, 0)", x.look(1, 0), k == 2 ? 1 : 0);
            Due.is("look(1, 3)", x.look(1, 3), k == 2 ? 17 : 0);
            Due.is("restart(1)", x.restart(1) ? 1 : 0, k == 2 ? 0 : 1);
            Due.is("look(1, 2)", x.look(1, 2), k == 0 ? 9 : 17);
            Due.is("look(1, 3)", x.look(1, 3), k == 2 ? 17 : 0);
            Due.is("look(1, 6)", x.look(1, 6), k == 2 ? 0 : -1);
        }
    }

    private static void noSuchNode() {
        for (int size : new int[] {3, 5}) {
            ScarredLog x = new ScarredLog(size);
            for (int n : Due.noNodes(size)) {
                Due.is("lead(" + n + ")", x.lead(n), -1);
            }
        }
    }

    private static void down() {
        ScarredLog x = Due.led(3, 0, 0, 1);
        Due.yes("crash(0)", x.crash(0));
        Due.is("lead(0)", x.lead(0), 0);
        Due.is("octet(0, 3)", x.octet(0, 3), 8);
        Due.yes("restart(0)", x.restart(0));
        Due.is("look(0, 3)", x.look(0, 3), 0);
        Due.is("lead(0)", x.lead(0), 16);
    }

    private static void mute() {
        ScarredLog x = new ScarredLog(3);
        Due.mute(x, 1);
        Due.is("lead(1)", x.lead(1), 0);
        Due.is("look(1, 3)", x.look(1, 3), 0);
        Due.sector(x, 1, 0, 0, 0, 0, 0, 0, 0, 0, 0);
        Due.scar(x, 2, 0);
        Due.is("lead(2): one sector is right", x.lead(2), 10);
    }

    private static void damaged() {
        for (int s : new int[] {1, 8}) {
            ScarredLog x = Due.led(3, 0, 0, 1);
            Due.votes(x, 0, s, 1);
            Due.scar(x, 1, 2 * s);
            Due.is("lead(1): a known ballot", x.lead(1), 0);
            Due.scar(x, 1, 2 * s + 1);
            Due.is("lead(1): an unknown one", x.lead(1), 0);
            Due.is("look(1, 2)", x.look(1, 2), 8);
            Due.votes(x, 0, s, 1);
            Due.is("lead(1): none any more", x.lead(1), 9);
        }
        // A slot whose vote was only cut off is empty, and so is one with a blank entry.
        ScarredLog y = new ScarredLog(3);
        Due.scar(y, 1, 2, 17);
        Due.is("lead(1)", y.lead(1), 9);
    }

    /** No 512 calls come that far; the edge is looked at all the same, as this program does not count calls. */
    private static void above60000() {
        for (int n = 0; n < 3; n++) {
            ScarredLog x = new ScarredLog(3);
            int greatest = n == 0 ? 60000 : 59992 + n;
            int last = 0;
            for (int i = 0; i < (greatest - n) / 8; i++) {
                last = x.lead(n);
            }
            Due.is("lead(" + n + ")", last, greatest);
            Due.is("lead(" + n + "): it would be " + (greatest + 8), x.lead(n), 0);
            Due.is("look(" + n + ", 3): the term that it has stays", x.look(n, 3), greatest);
            Due.sector(x, n, 0, 0, 0, greatest / 256, greatest % 256);
        }
    }
}
