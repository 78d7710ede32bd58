/** Promise 8, a test for each sentence that names a boundary. */
public final class Edges08MendTest {
    public static void main(String[] args) {
        Due.sentence("if its ballot is known", Edges08MendTest::known);
        Due.sentence("and a's slot is whole", Edges08MendTest::whole);
        Due.sentence("with a vote of just that ballot", Edges08MendTest::justThatBallot);
        Due.sentence("n writes that vote: 1", Edges08MendTest::writes);
        Due.sentence("-4 if it goes down by that", Edges08MendTest::goesDown);
        Due.sentence("Otherwise 0, also if one is down", Edges08MendTest::down);
        Due.sentence("Otherwise 0, also if one is .. mute", Edges08MendTest::mute);
        Due.sentence("Otherwise 0, also if .. n's slot is not damaged", Edges08MendTest::notDamaged);
        Due.sentence("-1: no such node", Edges08MendTest::noSuchNode);
        Due.sentence("-1: no such .. slot", Edges08MendTest::noSuchSlot);
        Due.sentence("-1: .. or n is a", Edges08MendTest::itself);
        Due.end();
    }

    /** Nodes 0 and 1 of three voted for request 1 in slot 1, and for NOTHING in slot 8, with ballot 8. */
    private static ScarredLog voted() {
        ScarredLog x = Due.led(3, 0, 0, 1);
        x.ask(0, 5);
        Due.is("route(1, 0)", x.route(1, 0), 1);
        Due.votes(x, 0, 1, 0, 1);
        Due.votes(x, 0, 8, 0, 1);
        return x;
    }

    private static void known() {
        ScarredLog x = voted();
        Due.scar(x, 1, 2, 3);
        Due.is("mend(1, 0, 1)", x.mend(1, 0, 1), 0);
        Due.is("slot(1, 1)", x.slot(1, 1), -1000000);
        Due.scar(x, 0, 2, 3);
        Due.is("mend(1, 0, 1): unknown at both", x.mend(1, 0, 1), 0);
    }

    private static void whole() {
        ScarredLog x = voted();
        Due.scar(x, 1, 2, 16);
        Due.is("mend(1, 2, 1): empty there", x.mend(1, 2, 1), 0);
        Due.scar(x, 0, 2);
        Due.is("mend(1, 0, 1): damaged there, with the same ballot", x.mend(1, 0, 1), 0);
        Due.is("mend(1, 0, 8): whole there", x.mend(1, 0, 8), 1);
        Due.is("slot(1, 8)", x.slot(1, 8), 512);
        Due.is("slot(1, 1)", x.slot(1, 1), -10);
        // Whole as the helper has it, though its disk has been wiped meanwhile.
        ScarredLog y = voted();
        Due.scar(y, 1, 2);
        Due.yes("wipe(0, 2)", y.wipe(0, 2));
        Due.yes("wipe(0, 3)", y.wipe(0, 3));
        Due.is("mend(1, 0, 1)", y.mend(1, 0, 1), 1);
        Due.is("slot(1, 1)", y.slot(1, 1), 513);
    }

    private static void justThatBallot() {
        ScarredLog x = voted();
        Due.begin(x, 2, 0, 2);
        Due.votes(x, 2, 1, 2);
        Due.scar(x, 1, 2);
        Due.scar(x, 0, 16);
        Due.is("mend(1, 2, 1): 10 there, 8 here", x.mend(1, 2, 1), 0);
        Due.is("mend(1, 0, 1): 8", x.mend(1, 0, 1), 1);
        Due.scar(x, 2, 2);
        Due.is("mend(2, 0, 1): 8 there, 10 here", x.mend(2, 0, 1), 0);
        Due.is("slot(2, 1)", x.slot(2, 1), -12);
    }

    private static void writes() {
        ScarredLog x = voted();
        Due.scar(x, 1, 2, 16);
        Due.yes("wipe(1, 3)", x.wipe(1, 3));
        Due.yes("arm(1, 4)", x.arm(1, 4));
        Due.is("mend(1, 0, 1)", x.mend(1, 0, 1), 1);
        Due.sector(x, 1, 2, 1, 1, 0, 8);
        Due.sector(x, 1, 3, 1, 0, 0, 8);
        Due.is("slot(1, 1)", x.slot(1, 1), 513);
        Due.is("look(1, 6): two sectors, no promise", x.look(1, 6), 2);
        Due.is("mend(1, 0, 8)", x.mend(1, 0, 8), 1);
        Due.sector(x, 1, 16, 8, 0, 0, 8);
        Due.is("slot(1, 8)", x.slot(1, 8), 512);
        Due.scar(x, 1);
        Due.is("slot(1, 1)", x.slot(1, 1), 513);
        // Just that vote, however much has been promised since.
        Due.scar(x, 1, 2);
        Due.begin(x, 2, 0, 1, 2);
        Due.is("mend(1, 0, 1)", x.mend(1, 0, 1), 1);
        Due.is("slot(1, 1)", x.slot(1, 1), 513);
        Due.is("look(1, 2)", x.look(1, 2), 10);
    }

    private static void goesDown() {
        for (int k = 0; k <= 2; k++) {
            ScarredLog x = voted();
            Due.scar(x, 1, 2);
            Due.yes("arm(1, " + k + ")", x.arm(1, k));
            Due.is("mend(1, 0, 1) armed with " + k, x.mend(1, 0, 1), k == 2 ? 1 : -4);
            Due.is("look(1, 0)", x.look(1, 0), k == 2 ? 1 : 0);
            Due.is("look(0, 0)", x.look(0, 0), 1);
            x.restart(1);
            Due.is("slot(1, 1)", x.slot(1, 1), k == 0 ? -10 : 513);
        }
        // The helper writes nothing, so its being armed does not matter.
        ScarredLog y = voted();
        Due.scar(y, 1, 2);
        Due.yes("arm(0, 0)", y.arm(0, 0));
        Due.is("mend(1, 0, 1)", y.mend(1, 0, 1), 1);
        Due.is("look(0, 6)", y.look(0, 6), 0);
    }

    private static void down() {
        ScarredLog x = voted();
        Due.scar(x, 1, 2);
        x.crash(0);
        Due.is("mend(1, 0, 1): a is down", x.mend(1, 0, 1), 0);
        x.restart(0);
        x.crash(1);
        Due.is("mend(1, 0, 1): n is down", x.mend(1, 0, 1), 0);
        Due.sector(x, 1, 2, 0, 0, 0, 0, 0, 0, 0, 0);
        x.restart(1);
        Due.is("mend(1, 0, 1)", x.mend(1, 0, 1), 1);
    }

    private static void mute() {
        ScarredLog x = voted();
        Due.scar(x, 1, 2);
        Due.mute(x, 0);
        Due.is("slot(0, 1)", x.slot(0, 1), 513);
        Due.is("mend(1, 0, 1): a is mute", x.mend(1, 0, 1), 0);
        ScarredLog y = voted();
        Due.scar(y, 1, 2, 0, 1);
        Due.is("slot(1, 1)", y.slot(1, 1), -10);
        Due.is("mend(1, 0, 1): n is mute", y.mend(1, 0, 1), 0);
        Due.is("slot(1, 1)", y.slot(1, 1), -10);
    }

    private static void notDamaged() {
        ScarredLog x = voted();
        Due.is("mend(1, 0, 1): whole, with that vote", x.mend(1, 0, 1), 0);
        Due.is("mend(2, 0, 1): empty", x.mend(2, 0, 1), 0);
        Due.is("mend(1, 0, 2): empty at both", x.mend(1, 0, 2), 0);
        Due.is("slot(2, 1)", x.slot(2, 1), 0);
        // Wrong on the disk alone: the node has not found it.
        Due.yes("wipe(1, 2)", x.wipe(1, 2));
        Due.is("mend(1, 0, 1)", x.mend(1, 0, 1), 0);
        Due.sector(x, 1, 2, 0, 0, 0, 0, 0, 0, 0, 0);
        Due.scar(x, 1);
        Due.is("mend(1, 0, 1)", x.mend(1, 0, 1), 1);
        Due.is("mend(1, 0, 1): whole by now", x.mend(1, 0, 1), 0);
    }

    private static void noSuchNode() {
        for (int size : new int[] {3, 5}) {
            ScarredLog x = new ScarredLog(size);
            for (int n : Due.noNodes(size)) {
                // With two partners, as one alone might be the node that a wrong number wraps round to.
                for (int other = 0; other <= 1; other++) {
                    Due.is("mend(" + n + ", " + other + ", 1)", x.mend(n, other, 1), -1);
                    Due.is("mend(" + other + ", " + n + ", 1)", x.mend(other, n, 1), -1);
                }
            }
            x.crash(0);
            Due.is("mend(0, " + size + ", 1): before that one is down", x.mend(0, size, 1), -1);
        }
    }

    private static void noSuchSlot() {
        ScarredLog x = voted();
        Due.scar(x, 1, 2, 16);
        for (int s : Due.noSlots()) {
            Due.is("mend(1, 0, " + s + ")", x.mend(1, 0, s), -1);
        }
        Due.is("mend(1, 0, 1)", x.mend(1, 0, 1), 1);
        Due.is("mend(1, 0, 8)", x.mend(1, 0, 8), 1);
        x.crash(0);
        Due.is("mend(1, 0, 9): before that one is down", x.mend(1, 0, 9), -1);
    }

    private static void itself() {
        ScarredLog x = voted();
        Due.scar(x, 1, 2);
        for (int n = 0; n < 3; n++) {
            Due.is("mend(" + n + ", " + n + ", 1)", x.mend(n, n, 1), -1);
        }
        x.crash(1);
        Due.is("mend(1, 1, 1): before that it is down", x.mend(1, 1, 1), -1);
    }
}
