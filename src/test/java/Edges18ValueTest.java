/** Promise 18, a test for each sentence that names a boundary; what the map is has its own in EdgesMapTest. */
public final class Edges18ValueTest {
    public static void main(String[] args) {
        Due.sentence("The number that key has in node n's map", Edges18ValueTest::number);
        Due.sentence("0 if there is no such node", Edges18ValueTest::noSuchNode);
        Due.sentence("0 if there is no such .. key", Edges18ValueTest::noSuchKey);
        Due.sentence("0 if .. it is down", Edges18ValueTest::down);
        Due.end();
    }

    /** All four keys have a number of their own at node 0. */
    private static ScarredLog filled(int size) {
        ScarredLog x = Due.led(size, 0, 0, 1, 2);
        for (int key = 0; key < 4; key++) {
            x.ask(key, -7 - key);
            Due.is("route", x.route(key + 1, 0), key + 1);
            Due.votes(x, 0, key + 1, 0, 1, 2);
        }
        return x;
    }

    private static void number() {
        ScarredLog x = filled(3);
        for (int key = 0; key < 4; key++) {
            Due.is("value(0, " + key + ")", x.value(0, key), -7 - key);
            Due.is("value(1, " + key + "): not told", x.value(1, key), 0);
        }
        Due.is("tell(0, 1)", x.tell(0, 1), 4);
        Due.is("value(1, 3)", x.value(1, 3), -10);
        Due.mute(x, 2);
        Due.is("tell(0, 2)", x.tell(0, 2), 4);
        Due.is("value(2, 0): mute", x.value(2, 0), -7);
    }

    private static void noSuchNode() {
        for (int size : new int[] {3, 5}) {
            ScarredLog x = filled(size);
            for (int n : Due.noNodes(size)) {
                Due.is("value(" + n + ", 0)", x.value(n, 0), 0);
            }
        }
    }

    private static void noSuchKey() {
        ScarredLog x = filled(3);
        for (int key : Due.noKeys()) {
            Due.is("value(0, " + key + ")", x.value(0, key), 0);
        }
    }

    private static void down() {
        ScarredLog x = filled(3);
        x.crash(0);
        Due.is("value(0, 0)", x.value(0, 0), 0);
        Due.is("value(0, 3)", x.value(0, 3), 0);
        x.restart(0);
        Due.is("value(0, 0): it forgot", x.value(0, 0), 0);
    }
}
