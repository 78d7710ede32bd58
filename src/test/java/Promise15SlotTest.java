public final class Promise15SlotTest {
    public static void main(String[] args) {
        ScarredLog x = Due.led(3, 2, 2, 1);
        for (int q = 1; q <= 30; q++) {
            x.ask(0, q);
        }
        Due.is("route(30, 2)", x.route(30, 2), 1);
        Due.votes(x, 2, 1, 0);
        Due.votes(x, 2, 8, 0);
        Due.is("slot(0, 1)", x.slot(0, 1), 64 * 10 + 30);
        Due.is("slot(0, 8)", x.slot(0, 8), 64 * 10);
        Due.is("slot(0, 2)", x.slot(0, 2), 0);
        Due.is("slot(0, 0)", x.slot(0, 0), -1);
        Due.is("slot(0, 9)", x.slot(0, 9), -1);
        Due.is("slot(-1, 1)", x.slot(-1, 1), -1);
        Due.is("slot(3, 1)", x.slot(3, 1), -1);
        Due.begin(x, 0, 0, 1);
        Due.votes(x, 0, 1, 0);
        Due.is("slot(0, 1): a vote in place of the other", x.slot(0, 1), 64 * 16 + 30);
        Due.is("slot(2, 1)", x.slot(2, 1), 0);
        x.crash(0);
        Due.is("slot(0, 1): down", x.slot(0, 1), -1);
        Due.is("slot(0, 2): down", x.slot(0, 2), -1);
        x.wipe(0, 2);
        x.flip(0, 16, 0);
        x.restart(0);
        Due.is("slot(0, 1)", x.slot(0, 1), -18);
        Due.is("slot(0, 8)", x.slot(0, 8), -12);
        Due.scar(x, 0, 17);
        Due.is("slot(0, 8)", x.slot(0, 8), -1000000);
        Due.scar(x, 0, 0, 1);
        Due.is("slot(0, 1): a mute one still has it", x.slot(0, 1), -18);
        highBallots();
        Due.end();
    }

    /** Ballots of two bytes. */
    private static void highBallots() {
        ScarredLog x = new ScarredLog(3);
        for (int i = 0; i < 40; i++) {
            x.lead(1);
        }
        Due.begin(x, 1, 0, 1);
        Due.is("look(1, 3)", x.look(1, 3), 329);
        Due.votes(x, 1, 3, 0);
        Due.is("slot(0, 3)", x.slot(0, 3), 64 * 329);
        Due.sector(x, 0, 6, 3, 0, 1, 73);
        Due.sector(x, 0, 7, 3, 0, 1, 73);
        Due.scar(x, 0);
        Due.is("slot(0, 3)", x.slot(0, 3), 64 * 329);
        Due.is("look(0, 2)", x.look(0, 2), 329);
        Due.scar(x, 0, 6);
        Due.is("slot(0, 3)", x.slot(0, 3), -331);
    }
}
