public final class Promise04PromiseTest {
    public static void main(String[] args) {
        ordinary();
        refusals();
        goesDown();
        toldAnew();
        Due.end();
    }

    private static void ordinary() {
        ScarredLog x = new ScarredLog(5);
        x.lead(1);
        x.arm(1, 9);
        x.arm(3, 9);
        Due.is("promise(1, 1)", x.promise(1, 1), 1);
        Due.is("look(1, 6): nothing to write", x.look(1, 6), 9);
        Due.is("promise(1, 3)", x.promise(1, 3), 1);
        Due.is("look(3, 6)", x.look(3, 6), 7);
        Due.sector(x, 3, 0, 0, 0, 0, 9);
        Due.sector(x, 3, 1, 0, 0, 0, 9);
        Due.is("look(3, 2)", x.look(3, 2), 9);
        Due.is("look(1, 4)", x.look(1, 4), 10);
        Due.is("promise(1, 3) again", x.promise(1, 3), 1);
        Due.is("look(3, 6)", x.look(3, 6), 7);
        Due.is("look(1, 4)", x.look(1, 4), 10);
        Due.is("look(3, 3)", x.look(3, 3), 0);
    }

    private static void refusals() {
        ScarredLog x = new ScarredLog(3);
        Due.is("promise(0, 1) without a term", x.promise(0, 1), 0);
        x.lead(0);
        String before = Due.sight(x);
        Due.is("promise(-1, 0)", x.promise(-1, 0), -1);
        Due.is("promise(3, 0)", x.promise(3, 0), -1);
        Due.is("promise(0, -1)", x.promise(0, -1), -1);
        Due.is("promise(0, 3)", x.promise(0, 3), -1);
        Due.same("promise", before, x);
        Due.is("lead(2)", x.lead(2), 10);
        before = Due.sight(x);
        Due.is("promise(0, 2)", x.promise(0, 2), -3);
        Due.same("promise(0, 2)", before, x);
        Due.is("promise(2, 0)", x.promise(2, 0), 1);
        Due.is("promise(0, 0): itself, outbid", x.promise(0, 0), -3);
        Due.is("look(0, 3): it still has its term", x.look(0, 3), 8);
        Due.is("promise(0, 1)", x.promise(0, 1), 1);
        x.crash(1);
        Due.is("promise(0, 1) down", x.promise(0, 1), -2);
        Due.is("look(0, 4)", x.look(0, 4), 2);
        x.wipe(1, 0);
        x.wipe(1, 1);
        x.restart(1);
        Due.is("promise(0, 1) mute", x.promise(0, 1), -2);
        x.crash(0);
        Due.is("promise(0, 1): the asking one is down", x.promise(0, 1), 0);
        x.restart(0);
        Due.is("promise(0, 1): it has no term any more", x.promise(0, 1), 0);
    }

    private static void goesDown() {
        ScarredLog x = new ScarredLog(3);
        x.lead(0);
        x.arm(1, 0);
        Due.is("promise(0, 1)", x.promise(0, 1), -4);
        Due.is("look(0, 4)", x.look(0, 4), 0);
        Due.is("look(1, 0)", x.look(1, 0), 0);
        x.restart(1);
        Due.is("look(1, 2)", x.look(1, 2), 0);
        x.arm(1, 1);
        Due.is("promise(0, 1)", x.promise(0, 1), -4);
        x.restart(1);
        Due.is("look(1, 2)", x.look(1, 2), 8);
        Due.is("look(0, 4)", x.look(0, 4), 0);
        x.arm(1, 0);
        Due.is("promise(0, 1): nothing to write", x.promise(0, 1), 1);
        Due.is("look(1, 6)", x.look(1, 6), 0);
        x.arm(2, 2);
        Due.is("promise(0, 2)", x.promise(0, 2), 1);
        Due.is("look(2, 6)", x.look(2, 6), 0);
    }

    /** What counts is what the slots were at the latest promise. */
    private static void toldAnew() {
        ScarredLog x = Due.led(3, 0, 0, 1);
        x.ask(1, 5);
        x.route(1, 0);
        Due.votes(x, 0, 1, 1);
        Due.is("plan(0, 1): 1 told it empty", x.plan(0, 1), -3);
        Due.is("promise(0, 1)", x.promise(0, 1), 1);
        Due.is("plan(0, 1): 1 told its vote", x.plan(0, 1), 1);
        Due.scar(x, 1, 2);
        Due.is("plan(0, 1): not told yet", x.plan(0, 1), 1);
        Due.is("promise(0, 1)", x.promise(0, 1), 1);
        Due.is("plan(0, 1): 1 told it damaged", x.plan(0, 1), -2);
    }
}
