/** Promise 4, a test for each sentence that names a boundary. */
public final class Edges04PromiseTest {
    public static void main(String[] args) {
        Due.sentence("asks node a (perhaps itself) for a promise", Edges04PromiseTest::itself);
        Due.sentence("-1: no such node", Edges04PromiseTest::noSuchNode);
        Due.sentence("0: n is down", Edges04PromiseTest::down);
        Due.sentence("0: n .. has no term", Edges04PromiseTest::noTerm);
        Due.sentence("-2: a is down", Edges04PromiseTest::askedDown);
        Due.sentence("-2: a is .. mute", Edges04PromiseTest::askedMute);
        Due.sentence("-3: a has promised a greater ballot", Edges04PromiseTest::greater);
        Due.sentence("if a's promised ballot is less, a writes the promise", Edges04PromiseTest::less);
        Due.sentence("if a's promised ballot is less: if it is just that one, nothing is written",
            Edges04PromiseTest::justThat);
        Due.sentence("-4 if it goes down by that", Edges04PromiseTest::goesDown);
        Due.sentence("and that is its promised ballot", Edges04PromiseTest::promisedBallot);
        Due.sentence("a is one of the promisers", Edges04PromiseTest::promisers);
        Due.sentence("with what its slots are now (in place of what it told before)", Edges04PromiseTest::toldAnew);
        Due.sentence("the refusals in their order", Edges04PromiseTest::order);
        Due.end();
    }

    private static void itself() {
        ScarredLog x = Due.led(3, 2);
        Due.is("promise(2, 2)", x.promise(2, 2), 1);
        Due.is("look(2, 4)", x.look(2, 4), 4);
        // It is no promiser by leading alone.
        ScarredLog y = Due.led(3, 2, 0);
        Due.is("plan(2, 1)", y.plan(2, 1), -1);
    }

    private static void noSuchNode() {
        for (int size : new int[] {3, 5}) {
            ScarredLog x = Due.led(size, 0);
            for (int n : Due.noNodes(size)) {
                Due.is("promise(" + n + ", 0)", x.promise(n, 0), -1);
                Due.is("promise(0, " + n + ")", x.promise(0, n), -1);
            }
            Due.is("look(0, 4)", x.look(0, 4), 0);
        }
    }

    private static void down() {
        ScarredLog x = Due.led(3, 0);
        x.crash(0);
        Due.is("promise(0, 1)", x.promise(0, 1), 0);
        Due.is("promise(0, 0)", x.promise(0, 0), 0);
        Due.is("look(1, 2)", x.look(1, 2), 0);
    }

    private static void noTerm() {
        ScarredLog x = Due.led(3, 0, 1);
        Due.is("promise(1, 2): it promised, but does not lead", x.promise(1, 2), 0);
        Due.scar(x, 0);
        Due.is("promise(0, 1): its term is lost", x.promise(0, 1), 0);
        Due.mute(x, 2);
        Due.is("promise(2, 1): mute", x.promise(2, 1), 0);
    }

    private static void askedDown() {
        ScarredLog x = Due.led(3, 0);
        x.crash(1);
        Due.is("promise(0, 1)", x.promise(0, 1), -2);
        Due.is("look(0, 4)", x.look(0, 4), 0);
        Due.sector(x, 1, 0, 0, 0, 0, 0);
        x.restart(1);
        Due.is("promise(0, 1)", x.promise(0, 1), 1);
    }

    private static void askedMute() {
        ScarredLog x = Due.led(3, 0);
        Due.mute(x, 1);
        Due.is("promise(0, 1)", x.promise(0, 1), -2);
        Due.is("look(0, 4)", x.look(0, 4), 0);
        Due.sector(x, 1, 0, 0, 0, 0, 0, 0, 0, 0, 0);
    }

    private static void greater() {
        ScarredLog x = Due.led(3, 1);
        Due.is("lead(2)", x.lead(2), 10);
        Due.is("promise(1, 2): 10 is greater than 9", x.promise(1, 2), -3);
        Due.is("look(2, 2)", x.look(2, 2), 10);
        Due.is("look(1, 4)", x.look(1, 4), 0);
        Due.is("promise(2, 1)", x.promise(2, 1), 1);
        Due.is("promise(1, 1): it has promised another a greater one itself", x.promise(1, 1), -3);
        Due.is("look(1, 3): but still has its term", x.look(1, 3), 9);
        Due.is("promise(1, 0): and others promise it", x.promise(1, 0), 1);
    }

    private static void less() {
        ScarredLog x = Due.led(3, 1);
        Due.is("lead(0)", x.lead(0), 8);
        Due.is("promise(1, 0): 8 is less than 9", x.promise(1, 0), 1);
        Due.sector(x, 0, 0, 0, 0, 0, 9);
        Due.sector(x, 0, 1, 0, 0, 0, 9);
        Due.yes("arm(2, 40)", x.arm(2, 40));
        Due.is("promise(1, 2): 0 is less", x.promise(1, 2), 1);
        Due.is("look(2, 6): two sectors", x.look(2, 6), 38);
    }

    private static void justThat() {
        ScarredLog x = Due.led(3, 1, 0);
        Due.yes("wipe(0, 0)", x.wipe(0, 0));
        Due.yes("arm(0, 0)", x.arm(0, 0));
        Due.is("promise(1, 0)", x.promise(1, 0), 1);
        Due.is("look(0, 0)", x.look(0, 0), 1);
        Due.is("look(0, 6)", x.look(0, 6), 0);
        Due.sector(x, 0, 0, 0, 0, 0, 0, 0, 0, 0, 0);
    }

    private static void goesDown() {
        for (int k = 0; k <= 2; k++) {
            ScarredLog x = Due.led(3, 1, 1);
            Due.yes("arm(2, " + k + ")", x.arm(2, k));
            Due.is("promise(1, 2) armed with " + k, x.promise(1, 2), k == 2 ? 1 : -4);
            Due.is("look(1, 4)", x.look(1, 4), k == 2 ? 6 : 2);
            Due.is("look(2, 0)", x.look(2, 0), k == 2 ? 1 : 0);
            Due.is("look(1, 0): the asking one stays up", x.look(1, 0), 1);
            x.restart(2);
            Due.is("look(2, 2)", x.look(2, 2), k == 0 ? 0 : 9);
            Due.is("promise(1, 2)", x.promise(1, 2), 1);
        }
    }

    private static void promisedBallot() {
        ScarredLog x = Due.led(5, 4);
        Due.is("promise(4, 0)", x.promise(4, 0), 1);
        Due.is("look(0, 2)", x.look(0, 2), 12);
        Due.is("lead(1)", x.lead(1), 9);
        Due.is("promise(1, 0)", x.promise(1, 0), -3);
        Due.is("look(0, 2)", x.look(0, 2), 12);
        Due.is("look(0, 3): a promise is no term", x.look(0, 3), 0);
    }

    private static void promisers() {
        ScarredLog x = Due.led(5, 2);
        int bits = 0;
        for (int a = 4; a >= 0; a--) {
            bits += 1 << a;
            Due.is("promise(2, " + a + ")", x.promise(2, a), 1);
            Due.is("look(2, 4)", x.look(2, 4), bits);
            Due.is("promise(2, " + a + ") again", x.promise(2, a), 1);
            Due.is("look(2, 4): it is a set", x.look(2, 4), bits);
        }
        x.crash(0);
        Due.is("look(2, 4): one that went down stays in it", x.look(2, 4), 31);
    }

    private static void toldAnew() {
        ScarredLog x = Due.led(3, 0, 0, 1);
        x.ask(0, 1);
        x.route(1, 0);
        Due.votes(x, 0, 1, 1);
        Due.is("plan(0, 1): empty was told", x.plan(0, 1), -3);
        Due.is("promise(0, 1)", x.promise(0, 1), 1);
        Due.is("plan(0, 1): whole is told", x.plan(0, 1), 1);
        Due.scar(x, 1, 2);
        Due.is("plan(0, 1): whole was told", x.plan(0, 1), 1);
        Due.is("promise(0, 1)", x.promise(0, 1), 1);
        Due.is("plan(0, 1): damaged is told", x.plan(0, 1), -2);
        Due.votes(x, 0, 1, 1);
        Due.is("plan(0, 1): damaged was told", x.plan(0, 1), -2);
        Due.is("promise(0, 1)", x.promise(0, 1), 1);
        Due.is("plan(0, 1): whole is told", x.plan(0, 1), 1);
    }

    private static void order() {
        ScarredLog x = new ScarredLog(3);
        x.crash(0);
        Due.is("promise(0, 3): no such node, from one that is down", x.promise(0, 3), -1);
        Due.is("promise(1, 0): no term, of one that is down", x.promise(1, 0), 0);
        Due.is("promise(0, 0): down itself", x.promise(0, 0), 0);
        ScarredLog y = Due.led(3, 0);
        y.lead(1);
        y.crash(1);
        Due.is("promise(0, 1): down, with a greater one on its disk", y.promise(0, 1), -2);
        y.restart(1);
        Due.yes("arm(1, 0)", y.arm(1, 0));
        Due.is("promise(0, 1): a greater one, so nothing is written", y.promise(0, 1), -3);
        Due.is("look(1, 0)", y.look(1, 0), 1);
    }
}
