/** Promise 2, a test for each sentence that names a boundary. */
public final class Edges02AskTest {
    public static void main(String[] args) {
        Due.sentence("A new request: its number", Edges02AskTest::number);
        Due.sentence("-1 if key is not 0 .. 3", Edges02AskTest::noKey);
        Due.sentence("or there are 30", Edges02AskTest::full);
        Due.sentence("its number v may be any", Edges02AskTest::anyNumber);
        Due.end();
    }

    private static void number() {
        ScarredLog x = new ScarredLog(3);
        Due.is("route(1, 0): none yet", x.route(1, 0), -1);
        Due.is("ask(0, 0): the first", x.ask(0, 0), 1);
        Due.is("route(1, 0)", x.route(1, 0), 0);
        Due.is("route(2, 0)", x.route(2, 0), -1);
        Due.is("ask(0, 0): the same once more is another", x.ask(0, 0), 2);
        Due.is("ask(3, 9)", x.ask(3, 9), 3);
        // All nodes down do not keep a client from asking.
        for (int n = 0; n < 3; n++) {
            x.crash(n);
        }
        Due.is("ask(1, 9)", x.ask(1, 9), 4);
    }

    private static void noKey() {
        ScarredLog x = new ScarredLog(3);
        int asked = 0;
        for (int key : Due.noKeys()) {
            Due.is("ask(" + key + ", 1)", x.ask(key, 1), -1);
            Due.is("route: it is no request", x.route(asked + 1, 0), -1);
            Due.is("ask: no number is used up", x.ask(asked % 4, 1), ++asked);
        }
    }

    private static void full() {
        ScarredLog x = new ScarredLog(3);
        for (int q = 1; q <= 29; q++) {
            x.ask(0, q);
        }
        Due.is("ask: the 30th", x.ask(3, 30), 30);
        for (int key = 0; key < 4; key++) {
            Due.is("ask: a 31st", x.ask(key, 31), -1);
        }
        Due.is("ask(4, 31)", x.ask(4, 31), -1);
        Due.is("route(31, 0)", x.route(31, 0), -1);
        Due.begin(x, 0, 0, 1);
        Due.is("route(30, 0)", x.route(30, 0), 1);
        Due.votes(x, 0, 1, 0, 1);
        Due.is("value(0, 3): that of the 30th", x.value(0, 3), 30);
    }

    private static void anyNumber() {
        ScarredLog x = Due.led(3, 0, 0, 1);
        int[] numbers = {0, -1, 255, 256, 65536, -1000000, Integer.MAX_VALUE, Integer.MIN_VALUE};
        for (int q = 1; q <= 8; q++) {
            Due.is("ask", x.ask(2, numbers[q - 1]), q);
            Due.is("route", x.route(q, 0), q);
            Due.votes(x, 0, q, 0, 1);
            Due.is("value(0, 2)", x.value(0, 2), numbers[q - 1]);
        }
    }
}
