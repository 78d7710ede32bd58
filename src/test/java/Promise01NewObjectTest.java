public final class Promise01NewObjectTest {
    public static void main(String[] args) {
        size(3, 3);
        size(5, 5);
        for (int n : new int[] {4, 0, -5, 6, 1, 2, 7, Integer.MIN_VALUE, Integer.MAX_VALUE}) {
            size(n, 3);
        }
        Due.end();
    }

    private static void size(int given, int nodes) {
        ScarredLog x = new ScarredLog(given);
        for (int n = 0; n < nodes; n++) {
            fresh(x, n);
        }
        Due.is("look(nodes, 0)", x.look(nodes, 0), -1);
        Due.is("look(-1, 0)", x.look(-1, 0), -1);
        Due.is("reply(1, true)", x.reply(1, true), 0);
        // A majority is two of three, three of five.
        x.lead(0);
        for (int a = 0; a < nodes; a++) {
            x.promise(0, a);
            Due.is("plan after " + (a + 1) + " promises", x.plan(0, 1), 2 * (a + 1) > nodes ? -3 : -1);
        }
    }

    private static void fresh(ScarredLog x, int n) {
        int[] looks = {1, 0, 0, 0, 0, 0, -1};
        for (int what = 0; what < looks.length; what++) {
            Due.is("look(" + n + ", " + what + ")", x.look(n, what), looks[what]);
        }
        for (int s = 1; s <= 8; s++) {
            Due.is("slot", x.slot(n, s), 0);
            Due.is("plan", x.plan(n, s), -1);
            Due.is("chosen", x.chosen(n, s), -1);
        }
        for (int sector = 0; sector < 18; sector++) {
            Due.sector(x, n, sector, 0, 0, 0, 0);
        }
        for (int key = 0; key < 4; key++) {
            Due.is("value", x.value(n, key), 0);
        }
    }
}
