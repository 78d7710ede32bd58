public final class Promise02AskTest {
    public static void main(String[] args) {
        ScarredLog x = new ScarredLog(3);
        Due.is("ask(-1, 1)", x.ask(-1, 1), -1);
        Due.is("ask(4, 1)", x.ask(4, 1), -1);
        Due.is("ask(min, 1)", x.ask(Integer.MIN_VALUE, 1), -1);
        for (int q = 1; q <= 30; q++) {
            Due.is("route(" + q + ", 0) before it is asked", x.route(q, 0), -1);
            Due.is("ask " + q, x.ask(q % 4, -q), q);
            Due.is("route(" + q + ", 0)", x.route(q, 0), 0);
            Due.is("ask(4, 0)", x.ask(4, 0), -1);
        }
        Due.is("ask 31", x.ask(0, 1), -1);
        Due.is("ask 31 again", x.ask(3, 1), -1);
        Due.is("route(31, 0)", x.route(31, 0), -1);
        numbersAreKept();
        Due.end();
    }

    private static void numbersAreKept() {
        ScarredLog x = Due.led(3, 0, 0, 1);
        int[] numbers = {Integer.MAX_VALUE, Integer.MIN_VALUE, -1, 0};
        for (int key = 0; key < 4; key++) {
            Due.is("ask", x.ask(key, numbers[key]), key + 1);
            Due.is("route", x.route(key + 1, 0), key + 1);
            Due.votes(x, 0, key + 1, 0, 1);
            Due.is("value", x.value(0, key), numbers[key]);
        }
    }
}
