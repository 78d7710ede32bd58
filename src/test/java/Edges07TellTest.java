/** Promise 7, a test for each sentence that names a boundary. */
public final class Edges07TellTest {
    public static void main(String[] args) {
        Due.sentence("Node n tells node m what is chosen at it: nothing is", Edges07TellTest::nothing);
        Due.sentence("Node n tells node m what is chosen at it: all eight are", Edges07TellTest::all);
        Due.sentence("how many commands are chosen at m by that that were not", Edges07TellTest::thatWereNot);
        Due.sentence("-1: no such node", Edges07TellTest::noSuchNode);
        Due.sentence("-1: .. or n is m", Edges07TellTest::itself);
        Due.sentence("-2: one is down", Edges07TellTest::down);
        Due.sentence("-2: one is down: a mute one is not", Edges07TellTest::mute);
        Due.end();
    }

    private static ScarredLog chosen(int... slots) {
        ScarredLog x = Due.led(3, 0, 0, 1);
        for (int s : slots) {
            Due.votes(x, 0, s, 0, 1);
        }
        return x;
    }

    private static void nothing() {
        ScarredLog x = new ScarredLog(3);
        Due.is("tell(0, 1)", x.tell(0, 1), 0);
        ScarredLog y = chosen(1, 8);
        Due.is("tell(1, 0)", y.tell(1, 0), 0);
        Due.is("chosen(0, 1): it loses none by that", y.chosen(0, 1), 0);
        Due.is("chosen(1, 1): nor is it told any in turn", y.chosen(1, 1), -1);
        Due.is("chosen(0, 8)", y.chosen(0, 8), 0);
    }

    private static void all() {
        ScarredLog x = chosen(1, 2, 3, 4, 5, 6, 7, 8);
        Due.is("tell(0, 2)", x.tell(0, 2), 8);
        for (int s = 1; s <= 8; s++) {
            Due.is("chosen(2, " + s + ")", x.chosen(2, s), 0);
            Due.is("slot(2, " + s + "): no vote", x.slot(2, s), 0);
        }
        Due.is("look(2, 5)", x.look(2, 5), 8);
        Due.is("chosen(1, 1): no other", x.chosen(1, 1), -1);
    }

    private static void thatWereNot() {
        ScarredLog x = chosen(1, 8);
        Due.is("tell(0, 1)", x.tell(0, 1), 2);
        Due.is("tell(0, 1) again", x.tell(0, 1), 0);
        Due.votes(x, 0, 4, 0, 1);
        Due.is("tell(0, 1): one more", x.tell(0, 1), 1);
        Due.is("tell(1, 2): what was told", x.tell(1, 2), 3);
        Due.is("tell(2, 0)", x.tell(2, 0), 0);
        Due.is("look(2, 5): as far as there is no gap", x.look(2, 5), 1);
    }

    private static void noSuchNode() {
        for (int size : new int[] {3, 5}) {
            ScarredLog x = new ScarredLog(size);
            for (int n : Due.noNodes(size)) {
                // With two partners, as one alone might be the node that a wrong number wraps round to.
                for (int other = 0; other <= 1; other++) {
                    Due.is("tell(" + n + ", " + other + ")", x.tell(n, other), -1);
                    Due.is("tell(" + other + ", " + n + ")", x.tell(other, n), -1);
                }
            }
            x.crash(0);
            Due.is("tell(" + size + ", 0): before that one is down", x.tell(size, 0), -1);
            Due.is("tell(0, " + size + ")", x.tell(0, size), -1);
        }
    }

    private static void itself() {
        ScarredLog x = chosen(1);
        for (int n = 0; n < 3; n++) {
            Due.is("tell(" + n + ", " + n + ")", x.tell(n, n), -1);
        }
        x.crash(0);
        Due.is("tell(0, 0): before that it is down", x.tell(0, 0), -1);
    }

    private static void down() {
        ScarredLog x = chosen(1);
        x.crash(2);
        Due.is("tell(0, 2)", x.tell(0, 2), -2);
        Due.is("tell(2, 0)", x.tell(2, 0), -2);
        x.restart(2);
        Due.is("chosen(2, 1)", x.chosen(2, 1), -1);
        Due.is("tell(0, 2)", x.tell(0, 2), 1);
        x.crash(0);
        x.crash(1);
        Due.is("tell(0, 1): both", x.tell(0, 1), -2);
    }

    private static void mute() {
        ScarredLog x = chosen(1);
        Due.mute(x, 2);
        Due.is("tell(0, 2)", x.tell(0, 2), 1);
        Due.is("tell(2, 1)", x.tell(2, 1), 1);
    }
}
