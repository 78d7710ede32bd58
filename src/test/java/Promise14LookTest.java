public final class Promise14LookTest {
    public static void main(String[] args) {
        ScarredLog x = Due.led(5, 3, 0, 3, 4);
        x.ask(0, 1);
        x.route(1, 3);
        x.arm(3, 20);
        Due.votes(x, 3, 1, 0, 3, 4);
        Due.votes(x, 3, 2, 0, 3, 4);
        Due.votes(x, 3, 4, 0, 3, 4);
        int[] want = {1, 0, 11, 11, 25, 2, 14};
        all(x, 3, want);
        all(x, 0, new int[] {1, 0, 11, 0, 0, 0, -1});
        Due.is("look(3, 7)", x.look(3, 7), -1);
        Due.is("look(3, -1)", x.look(3, -1), -1);
        Due.is("look(5, 0)", x.look(5, 0), -1);
        Due.is("look(-1, 0)", x.look(-1, 0), -1);
        x.lead(4);
        x.promise(4, 3);
        all(x, 3, new int[] {1, 0, 12, 11, 25, 2, 12});
        Due.votes(x, 3, 3, 0);
        Due.is("look(3, 5)", x.look(3, 5), 2);
        x.crash(3);
        all(x, 3, new int[] {0, 0, 0, 0, 0, 0, -1});
        Due.is("look(3, 7): down", x.look(3, 7), -1);
        x.wipe(3, 0);
        x.wipe(3, 1);
        x.restart(3);
        all(x, 3, new int[] {1, 1, 0, 0, 0, 0, -1});
        x.crash(3);
        all(x, 3, new int[] {0, 0, 0, 0, 0, 0, -1});
        x.restart(3);
        all(x, 3, new int[] {1, 1, 0, 0, 0, 0, -1});
        gapThenFilled();
        Due.end();
    }

    private static void all(ScarredLog x, int n, int[] want) {
        for (int what = 0; what < want.length; what++) {
            Due.is("look(" + n + ", " + what + ")", x.look(n, what), want[what]);
        }
    }

    private static void gapThenFilled() {
        ScarredLog x = Due.led(3, 0, 0, 1);
        for (int s = 8; s >= 1; s--) {
            Due.is("look(0, 5)", x.look(0, 5), 0);
            Due.votes(x, 0, s, 0, 1);
        }
        Due.is("look(0, 5)", x.look(0, 5), 8);
    }
}
