/** Promise 12, a test for each sentence that names a boundary. */
public final class Edges12FlipTest {
    public static void main(String[] args) {
        Due.sentence("One bit (0 .. 63, bit b of byte b / 8, the lowest bit first)", Edges12FlipTest::everyBit);
        Due.sentence("of a sector of node n", Edges12FlipTest::everySector);
        Due.sentence("is flipped", Edges12FlipTest::bothWays);
        Due.sentence("False if there is no such node", Edges12FlipTest::noSuchNode);
        Due.sentence("False if there is no such .. sector", Edges12FlipTest::noSuchSector);
        Due.sentence("False if there is no such .. bit", Edges12FlipTest::noSuchBit);
        Due.sentence("False if .. the sector is wrong", Edges12FlipTest::wrong);
        Due.end();
    }

    private static void everyBit() {
        for (int bit = 0; bit < 64; bit++) {
            ScarredLog x = new ScarredLog(3);
            Due.yes("flip(2, 17, " + bit + ")", x.flip(2, 17, bit));
            for (int i = 0; i < 8; i++) {
                int before = i < 4 ? 0 : 255;
                int want = i == bit / 8 ? before ^ (1 << (bit % 8)) : before;
                Due.is("octet(2, " + (136 + i) + ")", x.octet(2, 136 + i), want);
            }
        }
    }

    private static void everySector() {
        for (int sector = 0; sector < 18; sector++) {
            ScarredLog x = new ScarredLog(5);
            Due.yes("flip(4, " + sector + ", 7)", x.flip(4, sector, 7));
            for (int i = 0; i < 144; i++) {
                int before = i % 8 < 4 ? 0 : 255;
                Due.is("octet(4, " + i + ")", x.octet(4, i), i == 8 * sector ? 128 : before);
            }
            Due.is("octet(0, " + 8 * sector + "): no other node", x.octet(0, 8 * sector), 0);
        }
    }

    /** A bit that is set is cleared, one that is not is set. */
    private static void bothWays() {
        ScarredLog x = Due.led(3, 0, 0, 1);
        Due.yes("flip(0, 0, 27): bit 3 of 8", x.flip(0, 0, 27));
        Due.is("octet(0, 3)", x.octet(0, 3), 0);
        Due.yes("flip(0, 1, 24)", x.flip(0, 1, 24));
        Due.is("octet(0, 11)", x.octet(0, 11), 9);
        Due.is("look(0, 0): up and down alike", x.look(0, 0), 1);
        x.crash(1);
        Due.yes("flip(1, 0, 63)", x.flip(1, 0, 63));
        Due.is("octet(1, 7)", x.octet(1, 7), 247 ^ 128);
        Due.is("look(1, 0): it stays down", x.look(1, 0), 0);
    }

    private static void noSuchNode() {
        for (int size : new int[] {3, 5}) {
            ScarredLog x = new ScarredLog(size);
            for (int n : Due.noNodes(size)) {
                Due.no("flip(" + n + ", 0, 0)", x.flip(n, 0, 0));
            }
            Due.is("octet(0, 0)", x.octet(0, 0), 0);
        }
    }

    private static void noSuchSector() {
        ScarredLog x = new ScarredLog(3);
        for (int sector : Due.noSectors()) {
            Due.no("flip(0, " + sector + ", 0)", x.flip(0, sector, 0));
        }
        untouched(x);
        Due.yes("flip(0, 0, 0)", x.flip(0, 0, 0));
        Due.yes("flip(0, 17, 0)", x.flip(0, 17, 0));
    }

    private static void noSuchBit() {
        ScarredLog x = new ScarredLog(3);
        for (int bit : new int[] {-1, 64, -64, 65, 128, 256, Integer.MIN_VALUE, Integer.MAX_VALUE}) {
            Due.no("flip(0, 0, " + bit + ")", x.flip(0, 0, bit));
            Due.no("flip(0, 17, " + bit + ")", x.flip(0, 17, bit));
        }
        untouched(x);
        Due.yes("flip(0, 0, 63)", x.flip(0, 0, 63));
        Due.yes("flip(0, 17, 0)", x.flip(0, 17, 0));
    }

    private static void untouched(ScarredLog x) {
        for (int i = 0; i < 144; i++) {
            Due.is("octet(0, " + i + ")", x.octet(0, i), i % 8 < 4 ? 0 : 255);
        }
    }

    /** By a flip, a wipe, or a torn write; and no longer when it is written anew. */
    private static void wrong() {
        ScarredLog x = new ScarredLog(3);
        Due.yes("flip(0, 0, 5)", x.flip(0, 0, 5));
        Due.no("flip(0, 0, 5): not back", x.flip(0, 0, 5));
        Due.no("flip(0, 0, 37): nor the bit that would match", x.flip(0, 0, 37));
        Due.is("octet(0, 0)", x.octet(0, 0), 32);
        Due.is("octet(0, 4)", x.octet(0, 4), 255);
        Due.yes("wipe(0, 1)", x.wipe(0, 1));
        Due.no("flip(0, 1, 0)", x.flip(0, 1, 0));
        Due.is("octet(0, 8)", x.octet(0, 8), 0);
        Due.is("lead(0)", x.lead(0), 8);
        Due.yes("flip(0, 0, 5)", x.flip(0, 0, 5));
        Due.yes("flip(0, 1, 0)", x.flip(0, 1, 0));
        Due.yes("arm(1, 0)", x.arm(1, 0));
        Due.is("lead(1)", x.lead(1), -4);
        Due.no("flip(1, 0, 0): torn", x.flip(1, 0, 0));
        Due.yes("flip(1, 1, 0)", x.flip(1, 1, 0));
    }
}
