/** Promise 15, a test for each sentence that names a boundary. */
public final class Edges15SlotTest {
    public static void main(String[] args) {
        Due.sentence("0 empty", Edges15SlotTest::empty);
        Due.sentence("whole: 64 * ballot + command", Edges15SlotTest::whole);
        Due.sentence("damaged: -2 - ballot", Edges15SlotTest::damaged);
        Due.sentence("damaged with an unknown ballot: -1000000", Edges15SlotTest::unknown);
        Due.sentence("-1 if there is no such node", Edges15SlotTest::noSuchNode);
        Due.sentence("-1 if there is no such .. slot", Edges15SlotTest::noSuchSlot);
        Due.sentence("-1 if .. it is down", Edges15SlotTest::down);
        Due.end();
    }

    private static void empty() {
        ScarredLog x = Due.led(3, 0, 0, 1);
        Due.votes(x, 0, 1, 1);
        Due.votes(x, 0, 8, 1);
        for (int s = 2; s <= 7; s++) {
            Due.is("slot(1, " + s + ")", x.slot(1, s), 0);
        }
        Due.is("slot(0, 1): no vote of this node", x.slot(0, 1), 0);
    }

    /** The least ballot and a greater one than a byte holds; NOTHING and the greatest request. */
    private static void whole() {
        ScarredLog x = new ScarredLog(3);
        for (int q = 1; q <= 30; q++) {
            x.ask(0, q);
        }
        Due.begin(x, 0, 0, 1);
        Due.is("route(30, 0)", x.route(30, 0), 1);
        Due.votes(x, 0, 1, 1);
        Due.votes(x, 0, 8, 1);
        Due.is("slot(1, 1)", x.slot(1, 1), 64 * 8 + 30);
        Due.is("slot(1, 8)", x.slot(1, 8), 64 * 8);
        for (int b = 16; b < 1024; b += 8) {
            x.lead(0);
        }
        Due.begin(x, 0, 0, 1);
        Due.votes(x, 0, 1, 1);
        Due.is("slot(1, 1)", x.slot(1, 1), 64 * 1024 + 30);
    }

    private static void damaged() {
        ScarredLog x = Due.led(3, 0, 0, 1);
        Due.votes(x, 0, 1, 1);
        Due.votes(x, 0, 8, 1);
        Due.scar(x, 1, 2, 16);
        Due.is("slot(1, 1)", x.slot(1, 1), -10);
        Due.is("slot(1, 8)", x.slot(1, 8), -10);
        for (int b = 16; b < 1024; b += 8) {
            x.lead(0);
        }
        Due.begin(x, 0, 0, 2);
        Due.votes(x, 0, 1, 1);
        Due.scar(x, 1, 2);
        Due.is("slot(1, 1)", x.slot(1, 1), -1026);
        Due.mute(x, 1);
        Due.is("slot(1, 1): mute", x.slot(1, 1), -1026);
    }

    private static void unknown() {
        ScarredLog x = Due.led(3, 0, 0, 1);
        Due.votes(x, 0, 1, 1);
        Due.scar(x, 1, 2, 3, 16, 17);
        Due.is("slot(1, 1)", x.slot(1, 1), -1000000);
        Due.is("slot(1, 8)", x.slot(1, 8), -1000000);
    }

    private static void noSuchNode() {
        for (int size : new int[] {3, 5}) {
            ScarredLog x = new ScarredLog(size);
            for (int n : Due.noNodes(size)) {
                Due.is("slot(" + n + ", 1)", x.slot(n, 1), -1);
            }
            Due.is("slot", x.slot(size - 1, 1), 0);
        }
    }

    private static void noSuchSlot() {
        ScarredLog x = new ScarredLog(3);
        for (int s : Due.noSlots()) {
            Due.is("slot(0, " + s + ")", x.slot(0, s), -1);
        }
        Due.is("slot(0, 1)", x.slot(0, 1), 0);
        Due.is("slot(0, 8)", x.slot(0, 8), 0);
    }

    private static void down() {
        ScarredLog x = Due.led(3, 0, 0, 1);
        Due.votes(x, 0, 1, 1);
        x.crash(1);
        Due.is("slot(1, 1): whole on its disk", x.slot(1, 1), -1);
        Due.is("slot(1, 2): empty", x.slot(1, 2), -1);
        x.restart(1);
        Due.is("slot(1, 1)", x.slot(1, 1), 512);
    }
}
