public final class Promise20ReplyTest {
    public static void main(String[] args) {
        ScarredLog x = Due.led(3, 0, 0, 1);
        x.ask(0, 41);
        x.ask(0, 42);
        Due.is("reply(2, false)", x.reply(2, false), 0);
        Due.is("reply(2, true)", x.reply(2, true), 0);
        x.route(1, 0);
        x.route(2, 0);
        Due.votes(x, 0, 1, 0, 1);
        Due.votes(x, 0, 2, 0, 1);
        Due.is("reply(2, true): not heard yet", x.reply(2, true), 0);
        Due.is("reply(2, false): not heard yet", x.reply(2, false), 0);
        for (int times = 1; times <= 5; times++) {
            Due.is("route(2, 0)", x.route(2, 0), 100);
            Due.is("reply(2, true)", x.reply(2, true), times);
            Due.is("reply(2, false)", x.reply(2, false), 41);
        }
        Due.is("reply(1, true)", x.reply(1, true), 0);
        Due.is("tell(0, 1)", x.tell(0, 1), 2);
        Due.is("route(2, 1)", x.route(2, 1), 100);
        Due.is("reply(2, true): heard at any node", x.reply(2, true), 6);
        x.crash(0);
        x.crash(1);
        Due.is("reply(2, false): what was heard stays", x.reply(2, false), 41);
        for (int q : new int[] {0, 3, -1, 31, Integer.MIN_VALUE, Integer.MAX_VALUE}) {
            Due.is("reply(" + q + ", false)", x.reply(q, false), 0);
            Due.is("reply(" + q + ", true)", x.reply(q, true), 0);
        }
        Due.end();
    }
}
