/** Promise 11, a test for each sentence that names a boundary. */
public final class Edges11ArmTest {
    public static void main(String[] args) {
        Due.sentence("Node n is armed with k, in place of what it was", Edges11ArmTest::inPlace);
        Due.sentence("False if there is none", Edges11ArmTest::none);
        Due.sentence("False if .. it is down", Edges11ArmTest::down);
        Due.sentence("False if .. k is not 0 .. 40", Edges11ArmTest::range);
        Due.sentence("(A node that goes down is not armed any more.)", Edges11ArmTest::goesDown);
        Due.end();
    }

    private static void inPlace() {
        ScarredLog x = new ScarredLog(3);
        Due.yes("arm(1, 40)", x.arm(1, 40));
        Due.yes("arm(1, 0): a smaller number", x.arm(1, 0));
        Due.is("look(1, 6)", x.look(1, 6), 0);
        Due.yes("arm(1, 2): a greater one", x.arm(1, 2));
        Due.is("lead(1)", x.lead(1), 9);
        Due.is("look(1, 6)", x.look(1, 6), 0);
        Due.is("look(0, 6): no other", x.look(0, 6), -1);
        // A mute node is up, so it can be armed.
        Due.mute(x, 2);
        Due.yes("arm(2, 5)", x.arm(2, 5));
        Due.is("look(2, 6)", x.look(2, 6), 5);
    }

    private static void none() {
        for (int size : new int[] {3, 5}) {
            ScarredLog x = new ScarredLog(size);
            for (int n : Due.noNodes(size)) {
                Due.no("arm(" + n + ", 1)", x.arm(n, 1));
            }
            Due.yes("arm", x.arm(size - 1, 1));
        }
    }

    private static void down() {
        ScarredLog x = new ScarredLog(3);
        x.crash(1);
        Due.no("arm(1, 0)", x.arm(1, 0));
        Due.is("look(1, 6)", x.look(1, 6), -1);
        x.restart(1);
        Due.is("look(1, 6)", x.look(1, 6), -1);
        Due.is("lead(1)", x.lead(1), 9);
    }

    private static void range() {
        ScarredLog x = new ScarredLog(3);
        for (int k : new int[] {-1, 41, -40, 256, 296, Integer.MIN_VALUE, Integer.MAX_VALUE}) {
            Due.no("arm(0, " + k + ")", x.arm(0, k));
            Due.is("look(0, 6)", x.look(0, 6), -1);
        }
        for (int k = 0; k <= 40; k++) {
            Due.yes("arm(0, " + k + ")", x.arm(0, k));
            Due.is("look(0, 6)", x.look(0, 6), k);
        }
        Due.no("arm(0, -1): it is not disarmed by that", x.arm(0, -1));
        Due.no("arm(0, 41)", x.arm(0, 41));
        Due.is("look(0, 6)", x.look(0, 6), 40);
    }

    private static void goesDown() {
        ScarredLog x = new ScarredLog(3);
        Due.yes("arm(1, 1)", x.arm(1, 1));
        Due.is("lead(1): by its write", x.lead(1), -4);
        Due.is("look(1, 6)", x.look(1, 6), -1);
        x.restart(1);
        Due.is("look(1, 6)", x.look(1, 6), -1);
        Due.is("lead(1)", x.lead(1), 17);
        Due.yes("arm(1, 40)", x.arm(1, 40));
        Due.yes("crash(1)", x.crash(1));
        Due.is("look(1, 6): by a crash", x.look(1, 6), -1);
    }
}
