public final class Promise09CrashTest {
    public static void main(String[] args) {
        ScarredLog x = Due.led(3, 0, 0, 1);
        x.ask(0, 3);
        x.route(1, 0);
        Due.votes(x, 0, 1, 0, 1);
        x.arm(0, 9);
        Due.no("crash(-1)", x.crash(-1));
        Due.no("crash(3)", x.crash(3));
        Due.yes("crash(0)", x.crash(0));
        Due.no("crash(0) again", x.crash(0));
        for (int what = 0; what <= 5; what++) {
            Due.is("look(0, " + what + ")", x.look(0, what), 0);
        }
        Due.is("look(0, 6)", x.look(0, 6), -1);
        Due.is("look(1, 0): no other", x.look(1, 0), 1);
        Due.sector(x, 0, 0, 0, 0, 0, 8);
        Due.sector(x, 0, 2, 1, 1, 0, 8);
        Due.sector(x, 0, 3, 1, 0, 0, 8);
        Due.yes("restart(0)", x.restart(0));
        Due.is("look(0, 6)", x.look(0, 6), -1);
        Due.is("look(0, 3)", x.look(0, 3), 0);
        Due.is("look(0, 4)", x.look(0, 4), 0);
        Due.is("look(0, 5)", x.look(0, 5), 0);
        Due.is("chosen(0, 1)", x.chosen(0, 1), -1);
        Due.is("value(0, 0)", x.value(0, 0), 0);
        Due.yes("crash(0)", x.crash(0));
        ScarredLog y = new ScarredLog(5);
        Due.yes("crash(4)", y.crash(4));
        Due.no("crash(5)", y.crash(5));
        y.lead(0);
        y.arm(0, 0);
        y.lead(0);
        Due.no("crash(0): it went down by itself", y.crash(0));
        Due.end();
    }
}
