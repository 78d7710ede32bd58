/** Promise 1, a test for each sentence that names a boundary. */
public final class Edges01NewObjectTest {
    public static void main(String[] args) {
        Due.sentence("N is n if it is 5", Edges01NewObjectTest::five);
        Due.sentence("otherwise 3", Edges01NewObjectTest::otherwiseThree);
        Due.sentence("All nodes are up, not mute", Edges01NewObjectTest::upNotMute);
        Due.sentence("promised 0", Edges01NewObjectTest::promisedNothing);
        Due.sentence("all slots empty", Edges01NewObjectTest::slotsEmpty);
        Due.end();
    }

    private static void five() {
        ScarredLog x = new ScarredLog(5);
        Due.is("look(4, 0)", x.look(4, 0), 1);
        Due.is("look(5, 0)", x.look(5, 0), -1);
        Due.is("lead(4)", x.lead(4), 12);
    }

    private static void otherwiseThree() {
        for (int n : new int[] {3, 4, 6, 2, 1, 0, -1, -3, -5, 7, 8, 50, 261, 1 << 30, Integer.MIN_VALUE,
            Integer.MIN_VALUE + 5, Integer.MAX_VALUE}) {
            ScarredLog x = new ScarredLog(n);
            Due.is("look(2, 0) of " + n, x.look(2, 0), 1);
            Due.is("look(3, 0) of " + n, x.look(3, 0), -1);
            Due.is("lead(3) of " + n, x.lead(3), -1);
            // Two are a majority of three.
            Due.begin(x, 0, 0, 2);
            Due.is("plan(0, 1) of " + n, x.plan(0, 1), -3);
        }
    }

    private static void upNotMute() {
        for (int size : new int[] {3, 5}) {
            ScarredLog x = new ScarredLog(size);
            for (int n = 0; n < size; n++) {
                Due.is("look(" + n + ", 0)", x.look(n, 0), 1);
                Due.is("look(" + n + ", 1)", x.look(n, 1), 0);
                Due.no("restart(" + n + ")", x.restart(n));
                Due.is("look(" + n + ", 6)", x.look(n, 6), -1);
            }
        }
    }

    private static void promisedNothing() {
        for (int size : new int[] {3, 5}) {
            ScarredLog x = new ScarredLog(size);
            for (int n = 0; n < size; n++) {
                Due.is("look(" + n + ", 2)", x.look(n, 2), 0);
                Due.is("look(" + n + ", 3)", x.look(n, 3), 0);
                Due.is("look(" + n + ", 4)", x.look(n, 4), 0);
            }
        }
    }

    private static void slotsEmpty() {
        for (int size : new int[] {3, 5}) {
            ScarredLog x = new ScarredLog(size);
            for (int n = 0; n < size; n++) {
                for (int s = 1; s <= 8; s++) {
                    Due.is("slot(" + n + ", " + s + ")", x.slot(n, s), 0);
                    Due.is("chosen(" + n + ", " + s + ")", x.chosen(n, s), -1);
                }
            }
        }
    }
}
