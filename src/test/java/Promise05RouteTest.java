public final class Promise05RouteTest {
    public static void main(String[] args) {
        wrongInputs();
        assignsInOrder();
        hearsAnswers();
        behindWhatIsTaken();
        assignedStays();
        doneWithoutATerm();
        Due.end();
    }

    private static void wrongInputs() {
        ScarredLog x = Due.led(3, 0, 0, 1);
        x.ask(0, 1);
        String before = Due.sight(x);
        Due.is("route(0, 0)", x.route(0, 0), -1);
        Due.is("route(2, 0)", x.route(2, 0), -1);
        Due.is("route(-1, 0)", x.route(-1, 0), -1);
        Due.is("route(1, -1)", x.route(1, -1), -1);
        Due.is("route(1, 3)", x.route(1, 3), -1);
        Due.is("route(1, 1): no term", x.route(1, 1), 0);
        Due.same("route", before, x);
        x.lead(2);
        Due.is("route(1, 2): no promisers", x.route(1, 2), 0);
        x.promise(2, 2);
        Due.is("route(1, 2): no majority", x.route(1, 2), 0);
        x.crash(0);
        Due.is("route(1, 0): down", x.route(1, 0), 0);
    }

    private static void assignsInOrder() {
        ScarredLog x = Due.led(3, 1, 1, 2);
        for (int q = 1; q <= 9; q++) {
            x.ask(0, q);
        }
        for (int q = 9; q >= 2; q--) {
            Due.is("route(" + q + ", 1)", x.route(q, 1), 10 - q);
            Due.is("route(" + q + ", 1) again", x.route(q, 1), 10 - q);
        }
        Due.is("route(1, 1): all are taken", x.route(1, 1), -2);
        Due.is("route(9, 1)", x.route(9, 1), 1);
    }

    private static void hearsAnswers() {
        ScarredLog x = Due.led(3, 0, 0, 1);
        x.ask(2, 70);
        x.ask(2, 80);
        x.route(1, 0);
        x.route(2, 0);
        Due.votes(x, 0, 2, 0, 1);
        Due.is("route(2, 0): chosen, but not done", x.route(2, 0), 2);
        Due.is("reply(2, true)", x.reply(2, true), 0);
        Due.votes(x, 0, 1, 0, 1);
        Due.is("route(2, 0)", x.route(2, 0), 100);
        Due.is("reply(2, false)", x.reply(2, false), 70);
        Due.is("route(1, 0)", x.route(1, 0), 100);
        Due.is("reply(1, false)", x.reply(1, false), 0);
        Due.is("route(1, 0)", x.route(1, 0), 100);
        Due.is("reply(1, true)", x.reply(1, true), 2);
        Due.is("route(2, 1): not told yet", x.route(2, 1), 0);
    }

    private static void behindWhatIsTaken() {
        // A fixed command alone keeps slots before it from being assigned.
        ScarredLog x = Due.led(3, 0, 0, 1);
        x.ask(0, 1);
        x.ask(0, 2);
        Due.votes(x, 0, 5, 2);
        Due.is("route(1, 0)", x.route(1, 0), 6);
        Due.is("route(2, 0)", x.route(2, 0), 7);
        Due.votes(x, 0, 8, 2);
        x.ask(0, 3);
        Due.is("route(3, 0)", x.route(3, 0), -2);
        // A plan other than FREE does so too: a vote told, or a blocked slot.
        ScarredLog y = Due.led(3, 0, 0, 1);
        y.ask(0, 1);
        Due.votes(y, 0, 3, 1);
        Due.begin(y, 2, 2, 1);
        Due.is("route(1, 2)", y.route(1, 2), 4);
        Due.scar(y, 1, 6);
        Due.begin(y, 2, 2, 1);
        Due.is("plan(2, 3)", y.plan(2, 3), -2);
        Due.is("route(1, 2)", y.route(1, 2), 4);
        // A slot fixed by a call that ended with -4 counts.
        ScarredLog z = Due.led(3, 0, 0, 1);
        z.ask(0, 1);
        z.arm(2, 0);
        Due.is("vote(0, 2, 1)", z.vote(0, 2, 1), -4);
        Due.is("route(1, 0)", z.route(1, 0), 2);
    }

    /** An assigned slot is answered whatever became of it since. */
    private static void assignedStays() {
        ScarredLog x = Due.led(3, 0, 0, 1);
        x.ask(0, 1);
        x.ask(0, 2);
        x.route(1, 0);
        Due.votes(x, 0, 1, 2);
        Due.begin(x, 1, 0, 1);
        Due.is("route(2, 1)", x.route(2, 1), 1);
        Due.is("promise(1, 2)", x.promise(1, 2), 1);
        Due.is("plan(1, 1)", x.plan(1, 1), 1);
        Due.is("route(2, 1)", x.route(2, 1), 1);
        Due.is("route(1, 1)", x.route(1, 1), 2);
        Due.votes(x, 1, 1, 0, 1);
        Due.is("chosen(1, 1)", x.chosen(1, 1), 1);
        Due.is("route(2, 1)", x.route(2, 1), 1);
        Due.is("route(1, 1)", x.route(1, 1), 100);
    }

    private static void doneWithoutATerm() {
        ScarredLog x = Due.led(3, 0, 0, 1);
        x.ask(3, 4);
        x.route(1, 0);
        Due.votes(x, 0, 1, 0, 1);
        Due.scar(x, 2, 0, 1);
        Due.is("tell(0, 2)", x.tell(0, 2), 1);
        Due.is("look(2, 1)", x.look(2, 1), 1);
        Due.is("route(1, 2): a mute node has it done", x.route(1, 2), 100);
        x.crash(2);
        Due.is("route(1, 2)", x.route(1, 2), 0);
        x.restart(2);
        Due.is("route(1, 2)", x.route(1, 2), 0);
        Due.is("reply(1, true)", x.reply(1, true), 1);
    }
}
