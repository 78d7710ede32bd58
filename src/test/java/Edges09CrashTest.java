/** Promise 9, a test for each sentence that names a boundary. */
public final class Edges09CrashTest {
    public static void main(String[] args) {
        Due.sentence("Node n goes down", Edges09CrashTest::goesDown);
        Due.sentence("False if there is none", Edges09CrashTest::none);
        Due.sentence("False if .. it is down", Edges09CrashTest::isDown);
        Due.sentence("(It is not armed any more.)", Edges09CrashTest::notArmed);
        Due.end();
    }

    private static void goesDown() {
        for (int size : new int[] {3, 5}) {
            for (int n : new int[] {0, size - 1}) {
                ScarredLog x = Due.led(size, n, 0, 1, size - 1);
                Due.votes(x, n, 1, n);
                Due.yes("crash(" + n + ")", x.crash(n));
                Due.is("look(" + n + ", 0)", x.look(n, 0), 0);
                Due.is("look(" + n + ", 3)", x.look(n, 3), 0);
                Due.is("slot(" + n + ", 1)", x.slot(n, 1), -1);
                Due.is("look(1, 0): no other", x.look(1, 0), 1);
                Due.sector(x, n, 0, 0, 0, 0, 8 + n);
                Due.sector(x, n, 2, 1, 0, 0, 8 + n);
            }
        }
        // A mute one goes down like any other.
        ScarredLog y = new ScarredLog(3);
        Due.mute(y, 1);
        Due.yes("crash(1)", y.crash(1));
        Due.is("look(1, 1)", y.look(1, 1), 0);
    }

    private static void none() {
        for (int size : new int[] {3, 5}) {
            ScarredLog x = new ScarredLog(size);
            for (int n : Due.noNodes(size)) {
                Due.no("crash(" + n + ")", x.crash(n));
            }
            for (int n = 0; n < size; n++) {
                Due.is("look(" + n + ", 0)", x.look(n, 0), 1);
            }
        }
    }

    private static void isDown() {
        ScarredLog x = new ScarredLog(3);
        Due.yes("crash(1)", x.crash(1));
        Due.no("crash(1)", x.crash(1));
        x.restart(1);
        Due.yes("crash(1)", x.crash(1));
        Due.yes("arm(0, 0)", x.arm(0, 0));
        Due.is("lead(0)", x.lead(0), -4);
        Due.no("crash(0): it went down by its write", x.crash(0));
    }

    private static void notArmed() {
        ScarredLog x = new ScarredLog(3);
        Due.yes("arm(1, 0)", x.arm(1, 0));
        Due.yes("crash(1)", x.crash(1));
        Due.is("look(1, 6)", x.look(1, 6), -1);
        x.restart(1);
        Due.is("look(1, 6)", x.look(1, 6), -1);
        Due.is("lead(1)", x.lead(1), 9);
    }
}
