public final class Promise18ValueTest {
    public static void main(String[] args) {
        ordinary();
        inOrder();
        doneOnce();
        Due.end();
    }

    private static void ordinary() {
        ScarredLog x = Due.led(3, 0, 0, 1);
        x.ask(3, -77);
        x.route(1, 0);
        Due.is("value(0, 3)", x.value(0, 3), 0);
        Due.votes(x, 0, 1, 0, 1);
        Due.is("value(0, 3)", x.value(0, 3), -77);
        Due.is("value(0, 2)", x.value(0, 2), 0);
        Due.is("value(1, 3)", x.value(1, 3), 0);
        Due.is("value(0, 4)", x.value(0, 4), 0);
        Due.is("value(0, -1)", x.value(0, -1), 0);
        Due.is("value(3, 3)", x.value(3, 3), 0);
        Due.is("value(-1, 3)", x.value(-1, 3), 0);
        x.crash(0);
        Due.is("value(0, 3): down", x.value(0, 3), 0);
        x.restart(0);
        Due.is("value(0, 3): forgotten", x.value(0, 3), 0);
    }

    private static void inOrder() {
        ScarredLog x = Due.led(3, 0, 0, 1);
        for (int q = 1; q <= 3; q++) {
            x.ask(0, 10 * q);
            x.route(q, 0);
        }
        Due.votes(x, 0, 3, 0, 1);
        Due.is("value(0, 0)", x.value(0, 0), 0);
        Due.votes(x, 0, 1, 0, 1);
        Due.is("value(0, 0)", x.value(0, 0), 10);
        Due.votes(x, 0, 2, 0, 1);
        Due.is("value(0, 0)", x.value(0, 0), 30);
        int[] before = {0, 0, 10, 20};
        for (int q = 1; q <= 3; q++) {
            x.route(q, 0);
            Due.is("reply(" + q + ", false)", x.reply(q, false), before[q]);
        }
    }

    /** A request that is chosen for two slots is done at the first of them alone. */
    private static void doneOnce() {
        ScarredLog x = Due.led(3, 0, 0, 1);
        x.ask(0, 5);
        x.ask(0, 6);
        Due.is("route(1, 0)", x.route(1, 0), 1);
        Due.votes(x, 0, 1, 0);
        // The next leader does not know of that vote, and fixes the request for slot 3 too.
        Due.begin(x, 2, 1, 2);
        Due.is("route(2, 2)", x.route(2, 2), 1);
        Due.votes(x, 2, 2, 2);
        Due.is("route(1, 2)", x.route(1, 2), 3);
        Due.votes(x, 2, 3, 2);
        Due.begin(x, 0, 0, 1);
        Due.is("plan(0, 1)", x.plan(0, 1), 1);
        Due.is("route(2, 0)", x.route(2, 0), 2);
        Due.votes(x, 0, 1, 0, 1);
        Due.votes(x, 0, 2, 0, 1);
        Due.is("value(0, 0)", x.value(0, 0), 6);
        Due.is("promise(0, 2)", x.promise(0, 2), 1);
        Due.is("plan(0, 3)", x.plan(0, 3), 1);
        Due.votes(x, 0, 3, 0, 1);
        Due.is("chosen(0, 3)", x.chosen(0, 3), 1);
        Due.is("look(0, 5)", x.look(0, 5), 3);
        Due.is("value(0, 0): not done twice", x.value(0, 0), 6);
        Due.is("route(1, 0)", x.route(1, 0), 100);
        Due.is("reply(1, false)", x.reply(1, false), 0);
        Due.is("route(2, 0)", x.route(2, 0), 100);
        Due.is("reply(2, false)", x.reply(2, false), 5);
    }
}
