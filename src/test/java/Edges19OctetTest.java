/** Promise 19, a test for each sentence that names a boundary. */
public final class Edges19OctetTest {
    public static void main(String[] args) {
        Due.sentence("Byte i (0 .. 143) of node n's disk", Edges19OctetTest::bytes);
        Due.sentence("0 .. 255", Edges19OctetTest::range);
        Due.sentence("-1 if there is none: no such byte", Edges19OctetTest::noSuchByte);
        Due.sentence("-1 if there is none: no such node", Edges19OctetTest::noSuchNode);
        Due.end();
    }

    private static void bytes() {
        ScarredLog x = Due.led(5, 4, 0, 1, 2);
        Due.votes(x, 4, 8, 3);
        Due.is("octet(3, 0)", x.octet(3, 0), 0);
        Due.is("octet(3, 3)", x.octet(3, 3), 12);
        Due.is("octet(3, 128): the entry of slot 8", x.octet(3, 128), 8);
        Due.is("octet(3, 139)", x.octet(3, 139), 12);
        Due.is("octet(3, 143): the last", x.octet(3, 143), 243);
        x.crash(3);
        Due.is("octet(3, 3): of one that is down", x.octet(3, 3), 12);
        Due.is("octet(3, 143)", x.octet(3, 143), 243);
        // Of a node that is up the disk, not what it found.
        Due.yes("wipe(0, 0)", x.wipe(0, 0));
        Due.is("octet(0, 3)", x.octet(0, 3), 0);
        Due.is("look(0, 2)", x.look(0, 2), 12);
    }

    /** A byte above 127 is not below 0. */
    private static void range() {
        ScarredLog x = new ScarredLog(3);
        Due.is("octet(0, 4)", x.octet(0, 4), 255);
        Due.yes("flip(0, 0, 7)", x.flip(0, 0, 7));
        Due.is("octet(0, 0)", x.octet(0, 0), 128);
        Due.yes("flip(0, 1, 39)", x.flip(0, 1, 39));
        Due.is("octet(0, 12)", x.octet(0, 12), 127);
        ScarredLog y = new ScarredLog(3);
        for (int b = 8; b <= 248; b += 8) {
            y.lead(0);
        }
        Due.is("octet(0, 3)", y.octet(0, 3), 248);
        Due.is("octet(0, 7)", y.octet(0, 7), 7);
        Due.is("lead(0)", y.lead(0), 256);
        Due.is("octet(0, 2)", y.octet(0, 2), 1);
        Due.is("octet(0, 3)", y.octet(0, 3), 0);
        Due.is("octet(0, 7)", y.octet(0, 7), 255);
    }

    private static void noSuchByte() {
        ScarredLog x = new ScarredLog(3);
        for (int i : new int[] {-1, 144, 145, -144, 256, 1 << 30, Integer.MIN_VALUE, Integer.MAX_VALUE}) {
            Due.is("octet(0, " + i + ")", x.octet(0, i), -1);
            Due.is("octet(2, " + i + ")", x.octet(2, i), -1);
        }
    }

    private static void noSuchNode() {
        for (int size : new int[] {3, 5}) {
            ScarredLog x = new ScarredLog(size);
            for (int n : Due.noNodes(size)) {
                Due.is("octet(" + n + ", 0)", x.octet(n, 0), -1);
                Due.is("octet(" + n + ", 143)", x.octet(n, 143), -1);
            }
        }
    }
}
