/** Promise 13, a test for each sentence that names a boundary. */
public final class Edges13WipeTest {
    public static void main(String[] args) {
        Due.sentence("All eight bytes of a sector become 0", Edges13WipeTest::allEight);
        Due.sentence("so that it is wrong", Edges13WipeTest::isWrong);
        Due.sentence("False if there is no such node", Edges13WipeTest::noSuchNode);
        Due.sentence("False if there is no such .. sector", Edges13WipeTest::noSuchSector);
        Due.sentence("False if .. it is wrong", Edges13WipeTest::wrongBefore);
        Due.end();
    }

    private static void allEight() {
        for (int sector = 0; sector < 18; sector++) {
            ScarredLog x = new ScarredLog(5);
            Due.yes("wipe(4, " + sector + ")", x.wipe(4, sector));
            for (int i = 0; i < 144; i++) {
                int before = i % 8 < 4 ? 0 : 255;
                Due.is("octet(4, " + i + ")", x.octet(4, i), i / 8 == sector ? 0 : before);
            }
            Due.is("octet(0, " + (8 * sector + 7) + "): no other node", x.octet(0, 8 * sector + 7), 255);
        }
        ScarredLog y = Due.led(3, 0, 0, 1);
        Due.votes(y, 0, 8, 0);
        Due.yes("wipe(0, 16): up", y.wipe(0, 16));
        Due.sector(y, 0, 16, 0, 0, 0, 0, 0, 0, 0, 0);
        y.crash(0);
        Due.yes("wipe(0, 17): down", y.wipe(0, 17));
        Due.sector(y, 0, 17, 0, 0, 0, 0, 0, 0, 0, 0);
    }

    private static void isWrong() {
        ScarredLog x = Due.led(3, 0, 0, 1);
        Due.votes(x, 0, 1, 1);
        Due.yes("wipe(1, 2)", x.wipe(1, 2));
        Due.yes("wipe(1, 16)", x.wipe(1, 16));
        Due.scar(x, 1, 17);
        Due.is("slot(1, 1): not blank, but wrong", x.slot(1, 1), -10);
        Due.is("slot(1, 8): a wiped marker is not blank either", x.slot(1, 8), -1000000);
        Due.scar(x, 1, 0, 1);
        Due.is("look(1, 1): nor is it a promise of 0", x.look(1, 1), 1);
    }

    private static void noSuchNode() {
        for (int size : new int[] {3, 5}) {
            ScarredLog x = new ScarredLog(size);
            for (int n : Due.noNodes(size)) {
                Due.no("wipe(" + n + ", 0)", x.wipe(n, 0));
            }
            Due.is("octet(0, 4)", x.octet(0, 4), 255);
        }
    }

    private static void noSuchSector() {
        ScarredLog x = new ScarredLog(3);
        for (int sector : Due.noSectors()) {
            Due.no("wipe(0, " + sector + ")", x.wipe(0, sector));
        }
        for (int i = 0; i < 144; i++) {
            Due.is("octet(0, " + i + ")", x.octet(0, i), i % 8 < 4 ? 0 : 255);
        }
    }

    private static void wrongBefore() {
        ScarredLog x = new ScarredLog(3);
        Due.yes("wipe(0, 0)", x.wipe(0, 0));
        Due.no("wipe(0, 0): wiped", x.wipe(0, 0));
        Due.yes("flip(0, 1, 9)", x.flip(0, 1, 9));
        Due.no("wipe(0, 1): flipped", x.wipe(0, 1));
        Due.is("octet(0, 9)", x.octet(0, 9), 2);
        Due.yes("arm(1, 0)", x.arm(1, 0));
        Due.is("lead(1)", x.lead(1), -4);
        Due.no("wipe(1, 0): torn", x.wipe(1, 0));
        Due.is("octet(1, 3)", x.octet(1, 3), 9);
        Due.is("lead(0): written anew", x.lead(0), 8);
        Due.yes("wipe(0, 0)", x.wipe(0, 0));
        Due.yes("wipe(0, 1)", x.wipe(0, 1));
    }
}
