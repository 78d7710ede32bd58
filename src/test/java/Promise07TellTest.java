public final class Promise07TellTest {
    public static void main(String[] args) {
        ScarredLog x = Due.led(3, 0, 0, 1);
        x.ask(1, 11);
        x.ask(2, 22);
        x.route(1, 0);
        x.route(2, 0);
        Due.is("tell(0, 1): nothing yet", x.tell(0, 1), 0);
        Due.votes(x, 0, 1, 0, 1);
        Due.is("tell(0, 1)", x.tell(0, 1), 1);
        Due.is("tell(0, 1) again", x.tell(0, 1), 0);
        Due.votes(x, 0, 2, 0, 1);
        Due.votes(x, 0, 4, 0, 1);
        Due.is("tell(1, 2)", x.tell(1, 2), 1);
        Due.is("tell(0, 2)", x.tell(0, 2), 2);
        Due.is("chosen(2, 2)", x.chosen(2, 2), 2);
        Due.is("chosen(2, 3)", x.chosen(2, 3), -1);
        Due.is("chosen(2, 4)", x.chosen(2, 4), 0);
        Due.is("look(2, 5)", x.look(2, 5), 2);
        Due.is("value(2, 2)", x.value(2, 2), 22);
        Due.is("tell(2, 1): what was told is told on", x.tell(2, 1), 2);
        Due.is("slot(2, 1): nothing is written", x.slot(2, 1), 0);
        String before = Due.sight(x);
        Due.is("tell(1, 1)", x.tell(1, 1), -1);
        Due.is("tell(3, 1)", x.tell(3, 1), -1);
        Due.is("tell(1, 3)", x.tell(1, 3), -1);
        Due.is("tell(-1, 1)", x.tell(-1, 1), -1);
        Due.is("tell(1, -1)", x.tell(1, -1), -1);
        Due.is("tell(3, 3)", x.tell(3, 3), -1);
        Due.same("tell", before, x);
        x.crash(2);
        Due.is("tell(0, 2)", x.tell(0, 2), -2);
        Due.is("tell(2, 0)", x.tell(2, 0), -2);
        Due.is("tell(2, 2)", x.tell(2, 2), -1);
        x.wipe(2, 0);
        x.wipe(2, 1);
        x.restart(2);
        Due.is("tell(2, 0): it forgot", x.tell(2, 0), 0);
        Due.is("tell(0, 2): a mute one hears", x.tell(0, 2), 3);
        x.crash(0);
        x.restart(0);
        Due.is("tell(2, 0): a mute one tells", x.tell(2, 0), 3);
        Due.end();
    }
}
