public final class Promise17ChosenTest {
    public static void main(String[] args) {
        ScarredLog x = Due.led(3, 0, 0, 1);
        x.ask(0, 1);
        x.route(1, 0);
        Due.is("chosen(0, 1)", x.chosen(0, 1), -1);
        Due.votes(x, 0, 1, 0);
        Due.is("chosen(0, 1): one vote", x.chosen(0, 1), -1);
        Due.votes(x, 0, 1, 2);
        Due.is("chosen(0, 1)", x.chosen(0, 1), 1);
        Due.votes(x, 0, 8, 1, 2);
        Due.is("chosen(0, 8): nothing", x.chosen(0, 8), 0);
        Due.is("chosen(0, 2)", x.chosen(0, 2), -1);
        Due.is("chosen(1, 1)", x.chosen(1, 1), -1);
        Due.is("chosen(0, 0)", x.chosen(0, 0), -1);
        Due.is("chosen(0, 9)", x.chosen(0, 9), -1);
        Due.is("chosen(-1, 1)", x.chosen(-1, 1), -1);
        Due.is("chosen(3, 1)", x.chosen(3, 1), -1);
        x.lead(0);
        Due.is("chosen(0, 1): over a new term", x.chosen(0, 1), 1);
        x.crash(0);
        Due.is("chosen(0, 1): down", x.chosen(0, 1), -1);
        x.restart(0);
        Due.is("chosen(0, 1): forgotten", x.chosen(0, 1), -1);
        Due.end();
    }
}
