/** Promise 10, a test for each sentence that names a boundary; what is found has its own in EdgesFindsTest. */
public final class Edges10RestartTest {
    public static void main(String[] args) {
        Due.sentence("Node n comes up", Edges10RestartTest::comesUp);
        Due.sentence("and finds what its disk has", Edges10RestartTest::finds);
        Due.sentence("False if there is none", Edges10RestartTest::none);
        Due.sentence("False if .. it is up", Edges10RestartTest::isUp);
        Due.end();
    }

    private static void comesUp() {
        for (int n = 0; n < 5; n++) {
            ScarredLog x = new ScarredLog(5);
            x.crash(n);
            Due.yes("restart(" + n + ")", x.restart(n));
            Due.is("look(" + n + ", 0)", x.look(n, 0), 1);
            Due.is("look(" + n + ", 6)", x.look(n, 6), -1);
            Due.is("lead(" + n + ")", x.lead(n), 8 + n);
        }
        // Be it down by a crash or by a write that was cut off.
        ScarredLog y = new ScarredLog(3);
        y.arm(0, 0);
        Due.is("lead(0)", y.lead(0), -4);
        Due.yes("restart(0)", y.restart(0));
        Due.is("look(0, 0)", y.look(0, 0), 1);
    }

    private static void finds() {
        ScarredLog x = Due.led(3, 0, 0, 1);
        for (int s = 1; s <= 8; s++) {
            Due.votes(x, 0, s, 1);
        }
        Due.scar(x, 1, 4, 6, 7, 9, 16);
        int[] want = {0, 512, -10, -1000000, 512, 512, 512, 512, -10};
        for (int s = 1; s <= 8; s++) {
            Due.is("slot(1, " + s + ")", x.slot(1, s), want[s]);
        }
        Due.is("look(1, 2)", x.look(1, 2), 8);
        Due.scar(x, 2);
        Due.is("look(2, 2): an untouched disk", x.look(2, 2), 0);
        Due.is("slot(2, 1)", x.slot(2, 1), 0);
    }

    private static void none() {
        for (int size : new int[] {3, 5}) {
            ScarredLog x = new ScarredLog(size);
            for (int n = 0; n < size; n++) {
                x.crash(n);
            }
            for (int n : Due.noNodes(size)) {
                Due.no("restart(" + n + ")", x.restart(n));
            }
            for (int n = 0; n < size; n++) {
                Due.is("look(" + n + ", 0)", x.look(n, 0), 0);
            }
        }
    }

    private static void isUp() {
        ScarredLog x = Due.led(3, 0, 0, 1);
        Due.votes(x, 0, 1, 1);
        Due.yes("wipe(1, 2)", x.wipe(1, 2));
        Due.yes("arm(1, 3)", x.arm(1, 3));
        Due.no("restart(1)", x.restart(1));
        Due.is("slot(1, 1): nothing is found by that", x.slot(1, 1), 512);
        Due.is("look(1, 6)", x.look(1, 6), 3);
        Due.no("restart(0)", x.restart(0));
        Due.is("look(0, 3): its term stays", x.look(0, 3), 8);
        Due.mute(x, 2);
        Due.no("restart(2): mute is up", x.restart(2));
        Due.is("look(2, 1)", x.look(2, 1), 1);
    }
}
