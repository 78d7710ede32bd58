public final class Promise08MendTest {
    public static void main(String[] args) {
        ordinary();
        refusals();
        justThatBallot();
        goesDown();
        Due.end();
    }

    private static ScarredLog voted() {
        ScarredLog x = Due.led(3, 0, 0, 1);
        x.ask(0, 5);
        x.route(1, 0);
        Due.votes(x, 0, 1, 0, 1);
        return x;
    }

    private static void ordinary() {
        ScarredLog x = voted();
        Due.scar(x, 1, 2);
        x.arm(1, 7);
        Due.is("mend(1, 0, 1)", x.mend(1, 0, 1), 1);
        Due.is("look(1, 6)", x.look(1, 6), 5);
        Due.is("slot(1, 1)", x.slot(1, 1), 513);
        Due.sector(x, 1, 2, 1, 1, 0, 8);
        Due.sector(x, 1, 3, 1, 0, 0, 8);
        Due.is("mend(1, 0, 1): whole by now", x.mend(1, 0, 1), 0);
        Due.is("lead(1)", x.lead(1), 9);
        // It goes by what it found: what befell the disk since is mended by the write, too.
        Due.scar(x, 1, 2);
        x.wipe(1, 3);
        x.wipe(0, 2);
        Due.is("mend(1, 0, 1)", x.mend(1, 0, 1), 1);
        Due.scar(x, 1);
        Due.is("slot(1, 1)", x.slot(1, 1), 513);
    }

    private static void refusals() {
        ScarredLog x = voted();
        Due.scar(x, 1, 2);
        String before = Due.sight(x);
        Due.is("mend(1, 1, 1)", x.mend(1, 1, 1), -1);
        Due.is("mend(-1, 0, 1)", x.mend(-1, 0, 1), -1);
        Due.is("mend(3, 0, 1)", x.mend(3, 0, 1), -1);
        Due.is("mend(1, -1, 1)", x.mend(1, -1, 1), -1);
        Due.is("mend(1, 3, 1)", x.mend(1, 3, 1), -1);
        Due.is("mend(1, 0, 0)", x.mend(1, 0, 0), -1);
        Due.is("mend(1, 0, 9)", x.mend(1, 0, 9), -1);
        Due.is("mend(1, 2, 1): empty there", x.mend(1, 2, 1), 0);
        Due.is("mend(2, 0, 1): not damaged", x.mend(2, 0, 1), 0);
        Due.is("mend(0, 1, 1): not damaged", x.mend(0, 1, 1), 0);
        Due.is("mend(1, 0, 2): not damaged", x.mend(1, 0, 2), 0);
        Due.same("mend", before, x);
        x.crash(0);
        Due.is("mend(1, 0, 1): the other is down", x.mend(1, 0, 1), 0);
        Due.is("mend(0, 1, 1): it is down", x.mend(0, 1, 1), 0);
        x.wipe(0, 0);
        x.wipe(0, 1);
        x.restart(0);
        Due.is("slot(0, 1)", x.slot(0, 1), 513);
        Due.is("mend(1, 0, 1): the other is mute", x.mend(1, 0, 1), 0);
        ScarredLog y = voted();
        Due.scar(y, 1, 2, 0, 1);
        Due.is("slot(1, 1)", y.slot(1, 1), -10);
        Due.is("mend(1, 0, 1): it is mute", y.mend(1, 0, 1), 0);
        ScarredLog z = voted();
        Due.scar(z, 1, 2, 3);
        Due.is("mend(1, 0, 1): unknown ballot", z.mend(1, 0, 1), 0);
        ScarredLog w = voted();
        Due.scar(w, 1, 2);
        Due.scar(w, 0, 2);
        Due.is("mend(1, 0, 1): both damaged", w.mend(1, 0, 1), 0);
        Due.scar(w, 0, 3);
        Due.scar(w, 1, 3);
        Due.is("mend(1, 0, 1): both unknown", w.mend(1, 0, 1), 0);
    }

    private static void justThatBallot() {
        ScarredLog x = voted();
        Due.begin(x, 2, 2, 0);
        Due.votes(x, 2, 1, 2);
        Due.scar(x, 1, 2);
        Due.is("mend(1, 2, 1): ballot 10 there", x.mend(1, 2, 1), 0);
        Due.is("mend(1, 0, 1)", x.mend(1, 0, 1), 1);
        Due.scar(x, 2, 4);
        Due.is("slot(2, 2): its marker is blank", x.slot(2, 2), 0);
        Due.scar(x, 2, 2);
        Due.is("mend(2, 0, 1): ballot 8 there", x.mend(2, 0, 1), 0);
        Due.votes(x, 0, 2, 1);
    }

    private static void goesDown() {
        ScarredLog x = voted();
        Due.scar(x, 1, 2);
        x.arm(1, 0);
        Due.is("mend(1, 0, 1)", x.mend(1, 0, 1), -4);
        Due.is("look(1, 0)", x.look(1, 0), 0);
        Due.sector(x, 1, 2, 1, 1, 0, 8, 0, 0, 0, 0);
        x.restart(1);
        Due.is("slot(1, 1)", x.slot(1, 1), -10);
        x.arm(1, 1);
        Due.is("mend(1, 0, 1)", x.mend(1, 0, 1), -4);
        x.restart(1);
        Due.is("slot(1, 1)", x.slot(1, 1), 513);
        Due.is("look(0, 0)", x.look(0, 0), 1);
    }
}
