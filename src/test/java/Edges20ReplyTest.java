/** Promise 20, a test for each sentence that names a boundary. */
public final class Edges20ReplyTest {
    public static void main(String[] args) {
        Due.sentence("The answer that the client heard latest for request q", Edges20ReplyTest::latest);
        Due.sentence("0 if none (count false)", Edges20ReplyTest::none);
        Due.sentence("0 if none: there is no such request", Edges20ReplyTest::noSuchRequest);
        Due.sentence("or how often it heard one", Edges20ReplyTest::howOften);
        Due.end();
    }

    private static ScarredLog done() {
        ScarredLog x = Due.led(3, 0, 0, 1);
        x.ask(0, 41);
        x.ask(0, 42);
        x.ask(1, 43);
        for (int q = 1; q <= 2; q++) {
            x.route(q, 0);
            Due.votes(x, 0, q, 0, 1);
        }
        return x;
    }

    private static void latest() {
        ScarredLog x = done();
        Due.is("route(2, 0)", x.route(2, 0), 100);
        Due.is("reply(2, false)", x.reply(2, false), 41);
        Due.is("route(2, 0): once more", x.route(2, 0), 100);
        Due.is("reply(2, false)", x.reply(2, false), 41);
        Due.is("route(1, 0)", x.route(1, 0), 100);
        Due.is("reply(1, false): 0 is an answer, too", x.reply(1, false), 0);
        Due.is("reply(2, false)", x.reply(2, false), 41);
        for (int n = 0; n < 3; n++) {
            x.crash(n);
        }
        Due.is("reply(2, false): it stays, whatever goes down", x.reply(2, false), 41);
        // An answer below 0 is told as it is.
        ScarredLog y = Due.led(3, 0, 0, 1);
        y.ask(3, Integer.MIN_VALUE);
        y.ask(3, 1);
        for (int q = 1; q <= 2; q++) {
            y.route(q, 0);
            Due.votes(y, 0, q, 0, 1);
        }
        Due.is("route(2, 0)", y.route(2, 0), 100);
        Due.is("reply(2, false)", y.reply(2, false), Integer.MIN_VALUE);
    }

    private static void none() {
        ScarredLog x = done();
        Due.is("reply(2, false): done, but not heard", x.reply(2, false), 0);
        Due.is("reply(3, false): not even done", x.reply(3, false), 0);
        Due.is("route(3, 0)", x.route(3, 0), 3);
        Due.is("reply(3, false): only a slot was heard of", x.reply(3, false), 0);
        Due.is("reply(3, true)", x.reply(3, true), 0);
    }

    private static void noSuchRequest() {
        ScarredLog x = done();
        Due.is("route(2, 0)", x.route(2, 0), 100);
        for (int q : new int[] {0, -1, 4, 30, 31, 256, 258, Integer.MIN_VALUE, Integer.MAX_VALUE}) {
            Due.is("reply(" + q + ", false)", x.reply(q, false), 0);
            Due.is("reply(" + q + ", true)", x.reply(q, true), 0);
        }
        ScarredLog y = new ScarredLog(3);
        for (int q = 1; q <= 30; q++) {
            y.ask(0, q);
        }
        Due.begin(y, 0, 0, 1);
        y.route(29, 0);
        y.route(30, 0);
        Due.votes(y, 0, 1, 0, 1);
        Due.votes(y, 0, 2, 0, 1);
        Due.is("route(30, 0)", y.route(30, 0), 100);
        Due.is("reply(30, false): the greatest one", y.reply(30, false), 29);
        Due.is("reply(31, false)", y.reply(31, false), 0);
    }

    private static void howOften() {
        ScarredLog x = done();
        Due.is("reply(1, true)", x.reply(1, true), 0);
        for (int times = 1; times <= 100; times++) {
            Due.is("route(1, 0)", x.route(1, 0), 100);
            Due.is("reply(1, true)", x.reply(1, true), times);
        }
        Due.is("reply(2, true): no other's", x.reply(2, true), 0);
        Due.is("tell(0, 2)", x.tell(0, 2), 2);
        Due.is("route(1, 2): at another node", x.route(1, 2), 100);
        Due.is("reply(1, true)", x.reply(1, true), 101);
        x.crash(0);
        Due.is("route(1, 0): refused, not heard", x.route(1, 0), 0);
        Due.is("reply(1, true)", x.reply(1, true), 101);
    }
}
