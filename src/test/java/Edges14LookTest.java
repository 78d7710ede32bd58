/** Promise 14, a test for each sentence that names a boundary. */
public final class Edges14LookTest {
    public static void main(String[] args) {
        Due.sentence("what 0: 1 if it is up", Edges14LookTest::up);
        Due.sentence("1: 1 if it is mute", Edges14LookTest::mute);
        Due.sentence("2 its promised ballot (0 if mute)", Edges14LookTest::promised);
        Due.sentence("3 the ballot of its term (0: none)", Edges14LookTest::term);
        Due.sentence("4 the promisers, as bits", Edges14LookTest::promisers);
        Due.sentence("5 how many slots of its map are done", Edges14LookTest::slotsDone);
        Due.sentence("6: with what it is armed (-1: not)", Edges14LookTest::armed);
        Due.sentence("Of one that is down 0, but 6", Edges14LookTest::down);
        Due.sentence("-1 if there is no such node", Edges14LookTest::noSuchNode);
        Due.sentence("-1 if there is no such .. what", Edges14LookTest::noSuchWhat);
        Due.end();
    }

    private static void up() {
        ScarredLog x = new ScarredLog(3);
        Due.is("look(1, 0)", x.look(1, 0), 1);
        x.crash(1);
        Due.is("look(1, 0)", x.look(1, 0), 0);
        x.restart(1);
        Due.is("look(1, 0)", x.look(1, 0), 1);
        Due.mute(x, 1);
        Due.is("look(1, 0): mute is up", x.look(1, 0), 1);
    }

    private static void mute() {
        ScarredLog x = new ScarredLog(3);
        Due.is("look(1, 1)", x.look(1, 1), 0);
        Due.scar(x, 1, 0);
        Due.is("look(1, 1): one sector is right", x.look(1, 1), 0);
        Due.scar(x, 1, 1);
        Due.is("look(1, 1)", x.look(1, 1), 1);
        Due.is("look(0, 1)", x.look(0, 1), 0);
    }

    private static void promised() {
        ScarredLog x = new ScarredLog(3);
        Due.is("look(1, 2)", x.look(1, 2), 0);
        x.lead(1);
        x.lead(1);
        Due.is("look(1, 2)", x.look(1, 2), 17);
        x.lead(2);
        Due.is("promise(1, 2)", x.promise(1, 2), 1);
        Due.is("look(2, 2): another's", x.look(2, 2), 17);
        Due.mute(x, 1);
        Due.is("look(1, 2)", x.look(1, 2), 0);
    }

    private static void term() {
        ScarredLog x = new ScarredLog(3);
        Due.is("look(1, 3)", x.look(1, 3), 0);
        x.lead(1);
        Due.is("look(1, 3)", x.look(1, 3), 9);
        Due.is("promise(1, 0)", x.promise(1, 0), 1);
        Due.is("look(0, 3): a promise is no term", x.look(0, 3), 0);
        x.lead(2);
        Due.is("promise(2, 1)", x.promise(2, 1), 1);
        Due.is("look(1, 3): outbid, it still has it", x.look(1, 3), 9);
        Due.scar(x, 1);
        Due.is("look(1, 3)", x.look(1, 3), 0);
    }

    private static void promisers() {
        ScarredLog x = new ScarredLog(5);
        Due.is("look(4, 4): no term", x.look(4, 4), 0);
        x.lead(4);
        Due.is("look(4, 4): none", x.look(4, 4), 0);
        int[] asked = {4, 0, 2, 3, 1};
        int[] bits = {16, 17, 21, 29, 31};
        for (int i = 0; i < 5; i++) {
            x.promise(4, asked[i]);
            Due.is("look(4, 4)", x.look(4, 4), bits[i]);
        }
        x.lead(4);
        Due.is("look(4, 4): a new term", x.look(4, 4), 0);
    }

    private static void slotsDone() {
        ScarredLog x = Due.led(3, 0, 0, 1);
        Due.is("look(0, 5)", x.look(0, 5), 0);
        Due.votes(x, 0, 8, 0, 1);
        Due.is("look(0, 5): a gap before it", x.look(0, 5), 0);
        for (int s = 1; s <= 7; s++) {
            Due.votes(x, 0, s, 0, 1);
            Due.is("look(0, 5)", x.look(0, 5), s == 7 ? 8 : s);
        }
        Due.is("look(1, 5): not there", x.look(1, 5), 0);
    }

    private static void armed() {
        ScarredLog x = new ScarredLog(3);
        Due.is("look(1, 6)", x.look(1, 6), -1);
        x.arm(1, 0);
        Due.is("look(1, 6): 0 is armed", x.look(1, 6), 0);
        x.arm(1, 40);
        Due.is("look(1, 6)", x.look(1, 6), 40);
        x.lead(1);
        Due.is("look(1, 6)", x.look(1, 6), 38);
    }

    private static void down() {
        ScarredLog x = Due.led(3, 0, 0, 1);
        Due.votes(x, 0, 1, 0, 1);
        x.arm(0, 5);
        x.crash(0);
        Due.mute(x, 1);
        x.crash(1);
        for (int what = 0; what <= 5; what++) {
            Due.is("look(0, " + what + ")", x.look(0, what), 0);
            Due.is("look(1, " + what + ")", x.look(1, what), 0);
        }
        Due.is("look(0, 6)", x.look(0, 6), -1);
        Due.is("look(0, 7)", x.look(0, 7), -1);
        Due.is("look(0, -1)", x.look(0, -1), -1);
    }

    private static void noSuchNode() {
        for (int size : new int[] {3, 5}) {
            ScarredLog x = new ScarredLog(size);
            for (int n : Due.noNodes(size)) {
                for (int what = 0; what <= 6; what++) {
                    Due.is("look(" + n + ", " + what + ")", x.look(n, what), -1);
                }
            }
        }
    }

    private static void noSuchWhat() {
        ScarredLog x = Due.led(3, 0, 0, 1);
        x.arm(0, 9);
        for (int what : new int[] {-1, 7, 8, -6, 256, 262, Integer.MIN_VALUE, Integer.MAX_VALUE}) {
            Due.is("look(0, " + what + ")", x.look(0, what), -1);
        }
    }
}
