/** WHAT A NODE FINDS when it comes up, and what it goes by later: a test for each sentence. */
public final class EdgesFindsTest {
    public static void main(String[] args) {
        Due.sentence("Its PROMISED ballot is the greater one of those sectors 0 and 1 that are not wrong",
            EdgesFindsTest::promised);
        Due.sentence("if both are wrong, the node is MUTE", EdgesFindsTest::mute);
        Due.sentence("if the entry is not wrong, the slot is WHOLE with that vote", EdgesFindsTest::whole);
        Due.sentence("or EMPTY if it is blank (whatever the marker is)", EdgesFindsTest::blankEntry);
        Due.sentence("if the entry is wrong and the marker is blank, the slot is EMPTY", EdgesFindsTest::cutOff);
        Due.sentence("if the marker is not wrong and not blank: DAMAGED with the marker's ballot",
            EdgesFindsTest::damaged);
        Due.sentence("if both are wrong: DAMAGED with an unknown ballot", EdgesFindsTest::unknown);
        Due.sentence("Nothing is written by that", EdgesFindsTest::nothingWritten);
        Due.sentence("Later a slot becomes whole with each vote that is written whole (both sectors)",
            EdgesFindsTest::becomesWhole);
        Due.sentence("A node that is up goes by what it found and wrote since, not by its disk",
            EdgesFindsTest::goesByWhatItFound);
        Due.sentence("what befalls the disk meanwhile is found when it comes up next", EdgesFindsTest::foundNext);
        Due.sentence("A node also has, as long as it is up: a TERM or none .. and the CHOSEN commands",
            EdgesFindsTest::asLongAsItIsUp);
        Due.end();
    }

    /** Node 0 leads with ballot 8, nodes 0 and 1 promised; node 1 voted for slots 1 (request 1) and 2 (NOTHING). */
    private static ScarredLog voted() {
        ScarredLog x = Due.led(3, 0, 0, 1);
        x.ask(0, 5);
        Due.is("route(1, 0)", x.route(1, 0), 1);
        Due.votes(x, 0, 1, 1);
        Due.votes(x, 0, 2, 1);
        return x;
    }

    private static void promised() {
        for (int sector = 0; sector <= 1; sector++) {
            ScarredLog x = voted();
            Due.scar(x, 1, sector);
            Due.is("look(1, 2): sector " + sector + " is wrong", x.look(1, 2), 8);
            Due.is("look(1, 1)", x.look(1, 1), 0);
        }
        ScarredLog y = new ScarredLog(3);
        Due.scar(y, 1, 0);
        Due.is("look(1, 2): 0 in the one that is right", y.look(1, 2), 0);
        Due.is("look(1, 1): not mute by that", y.look(1, 1), 0);
        // A torn write that fits a flip before leaves sector 0 right, with a greater ballot than sector 1.
        ScarredLog z = Due.led(3, 0, 2);
        Due.is("lead(1)", z.lead(1), 9);
        Due.yes("flip(2, 0, 56)", z.flip(2, 0, 56));
        Due.yes("arm(2, 0)", z.arm(2, 0));
        Due.is("promise(1, 2)", z.promise(1, 2), -4);
        Due.sector(z, 2, 0, 0, 0, 0, 9);
        Due.sector(z, 2, 1, 0, 0, 0, 8);
        Due.yes("restart(2)", z.restart(2));
        Due.is("look(2, 2): the greater one", z.look(2, 2), 9);
    }

    private static void mute() {
        ScarredLog x = voted();
        Due.scar(x, 1, 0, 1);
        Due.is("look(1, 1)", x.look(1, 1), 1);
        Due.is("look(1, 2)", x.look(1, 2), 0);
        Due.is("look(1, 0): up all the same", x.look(1, 0), 1);
        Due.is("slot(1, 1): the slots are found", x.slot(1, 1), 513);
        // One torn and one wiped are both wrong; so is a sector of a node that never promised.
        ScarredLog y = voted();
        y.lead(0);
        Due.yes("arm(1, 0)", y.arm(1, 0));
        Due.is("promise(0, 1)", y.promise(0, 1), -4);
        Due.yes("wipe(1, 1)", y.wipe(1, 1));
        Due.yes("restart(1)", y.restart(1));
        Due.is("look(1, 1)", y.look(1, 1), 1);
        ScarredLog z = new ScarredLog(5);
        Due.yes("flip(4, 0, 0)", z.flip(4, 0, 0));
        Due.yes("flip(4, 1, 63)", z.flip(4, 1, 63));
        Due.scar(z, 4);
        Due.is("look(4, 1)", z.look(4, 1), 1);
    }

    /** With a marker that is right, flipped, wiped, or torn. */
    private static void whole() {
        ScarredLog x = voted();
        Due.scar(x, 1);
        Due.is("slot(1, 1): the marker is right", x.slot(1, 1), 513);
        Due.yes("flip(1, 3, 20)", x.flip(1, 3, 20));
        Due.scar(x, 1, 5);
        Due.is("slot(1, 1): the marker is flipped", x.slot(1, 1), 513);
        Due.is("slot(1, 2): the marker is wiped", x.slot(1, 2), 512);
        Due.yes("arm(1, 1)", x.arm(1, 1));
        Due.is("vote(0, 1, 3)", x.vote(0, 1, 3), -4);
        Due.yes("restart(1)", x.restart(1));
        Due.is("slot(1, 3): the marker is torn", x.slot(1, 3), 512);
        ScarredLog y = voted();
        Due.begin(y, 0, 0, 1);
        // A marker of another ballot: the entry was written whole, and then its marker torn.
        Due.yes("arm(1, 1)", y.arm(1, 1));
        Due.is("vote(0, 1, 1)", y.vote(0, 1, 1), -4);
        Due.yes("restart(1)", y.restart(1));
        Due.is("slot(1, 1): the entry's ballot", y.slot(1, 1), 64 * 16 + 1);
    }

    private static void blankEntry() {
        ScarredLog x = voted();
        Due.yes("flip(1, 9, 24)", x.flip(1, 9, 24));
        Due.scar(x, 1, 7);
        Due.is("slot(1, 3): the marker is wiped", x.slot(1, 3), 0);
        Due.is("slot(1, 4): the marker is flipped", x.slot(1, 4), 0);
        Due.is("slot(1, 8): the marker is blank", x.slot(1, 8), 0);
    }

    private static void cutOff() {
        ScarredLog x = voted();
        Due.yes("arm(1, 0)", x.arm(1, 0));
        Due.is("vote(0, 1, 3)", x.vote(0, 1, 3), -4);
        Due.yes("restart(1)", x.restart(1));
        Due.is("slot(1, 3): cut off", x.slot(1, 3), 0);
        Due.yes("flip(1, 10, 16)", x.flip(1, 10, 16));
        Due.scar(x, 1, 8);
        Due.is("slot(1, 4): wiped", x.slot(1, 4), 0);
        Due.is("slot(1, 5): flipped", x.slot(1, 5), 0);
        Due.is("lead(1): no slot is damaged", x.lead(1), 9);
    }

    private static void damaged() {
        ScarredLog x = voted();
        Due.yes("flip(1, 4, 31)", x.flip(1, 4, 31));
        Due.scar(x, 1, 2);
        Due.is("slot(1, 1): the entry is wiped", x.slot(1, 1), -10);
        Due.is("slot(1, 2): the entry is flipped", x.slot(1, 2), -10);
        ScarredLog y = voted();
        Due.begin(y, 0, 0, 1);
        Due.yes("arm(1, 0)", y.arm(1, 0));
        Due.is("vote(0, 1, 1)", y.vote(0, 1, 1), -4);
        Due.yes("restart(1)", y.restart(1));
        Due.is("slot(1, 1): torn, with the ballot of the vote before", y.slot(1, 1), -10);
    }

    private static void unknown() {
        ScarredLog x = voted();
        Due.yes("flip(1, 4, 0)", x.flip(1, 4, 0));
        Due.yes("flip(1, 5, 0)", x.flip(1, 5, 0));
        Due.scar(x, 1, 2, 3, 16, 17);
        Due.is("slot(1, 1): wiped", x.slot(1, 1), -1000000);
        Due.is("slot(1, 2): flipped", x.slot(1, 2), -1000000);
        Due.is("slot(1, 8): never voted for", x.slot(1, 8), -1000000);
        Due.is("slot(1, 7): no other slot", x.slot(1, 7), 0);
        // The entry written whole and the marker torn: without the entry nothing is known.
        ScarredLog y = voted();
        Due.yes("arm(1, 1)", y.arm(1, 1));
        Due.is("vote(0, 1, 3)", y.vote(0, 1, 3), -4);
        Due.yes("wipe(1, 6)", y.wipe(1, 6));
        Due.yes("restart(1)", y.restart(1));
        Due.is("slot(1, 3)", y.slot(1, 3), -1000000);
    }

    private static void nothingWritten() {
        ScarredLog x = voted();
        Due.yes("crash(1)", x.crash(1));
        for (int sector : new int[] {0, 2, 5, 6, 8, 9}) {
            Due.yes("wipe(1, " + sector + ")", x.wipe(1, sector));
        }
        Due.yes("flip(1, 1, 3)", x.flip(1, 1, 3));
        int[] before = new int[144];
        for (int i = 0; i < 144; i++) {
            before[i] = x.octet(1, i);
        }
        Due.yes("restart(1)", x.restart(1));
        for (int i = 0; i < 144; i++) {
            Due.is("octet(1, " + i + ")", x.octet(1, i), before[i]);
        }
    }

    private static void becomesWhole() {
        ScarredLog x = voted();
        Due.scar(x, 1, 2, 4, 5);
        Due.is("slot(1, 1): damaged", x.slot(1, 1), -10);
        Due.is("slot(1, 2): damaged", x.slot(1, 2), -1000000);
        Due.is("slot(1, 3): empty", x.slot(1, 3), 0);
        for (int s = 1; s <= 3; s++) {
            Due.is("vote(0, 1, " + s + ")", x.vote(0, 1, s), 1);
            Due.is("slot(1, " + s + ")", x.slot(1, s), s == 1 ? 513 : 512);
        }
        Due.is("lead(1): none is damaged any more", x.lead(1), 9);
        // One that was whole is so with the newer vote.
        Due.begin(x, 0, 0, 1);
        Due.is("vote(0, 1, 1)", x.vote(0, 1, 1), 1);
        Due.is("slot(1, 1)", x.slot(1, 1), 64 * 16 + 1);
        // One sector of the two is not enough: the slot is what is found then.
        ScarredLog y = voted();
        Due.scar(y, 1, 2);
        Due.yes("arm(1, 0)", y.arm(1, 0));
        Due.is("vote(0, 1, 1)", y.vote(0, 1, 1), -4);
        Due.yes("restart(1)", y.restart(1));
        Due.is("slot(1, 1)", y.slot(1, 1), -10);
    }

    private static void goesByWhatItFound() {
        ScarredLog x = voted();
        for (int sector = 0; sector < 18; sector++) {
            Due.yes("wipe(1, " + sector + ")", x.wipe(1, sector));
        }
        Due.is("look(1, 1)", x.look(1, 1), 0);
        Due.is("look(1, 2)", x.look(1, 2), 8);
        Due.is("slot(1, 1)", x.slot(1, 1), 513);
        Due.is("slot(1, 3)", x.slot(1, 3), 0);
        Due.is("promise(0, 1)", x.promise(0, 1), 1);
        Due.is("plan(0, 1): told from what it has", x.plan(0, 1), 1);
        Due.is("lead(1): no slot is damaged yet", x.lead(1), 9);
    }

    private static void foundNext() {
        ScarredLog x = voted();
        for (int sector = 0; sector < 4; sector++) {
            Due.yes("wipe(1, " + sector + ")", x.wipe(1, sector));
        }
        Due.is("slot(1, 1)", x.slot(1, 1), 513);
        Due.scar(x, 1);
        Due.is("slot(1, 1)", x.slot(1, 1), -1000000);
        Due.is("slot(1, 2)", x.slot(1, 2), 512);
        Due.is("look(1, 1)", x.look(1, 1), 1);
        // Damage that was written over meanwhile is not found.
        ScarredLog y = voted();
        for (int sector = 0; sector < 4; sector++) {
            Due.yes("wipe(1, " + sector + ")", y.wipe(1, sector));
        }
        Due.begin(y, 0, 0, 1);
        Due.votes(y, 0, 1, 1);
        Due.scar(y, 1);
        Due.is("slot(1, 1)", y.slot(1, 1), 64 * 16 + 1);
        Due.is("look(1, 1)", y.look(1, 1), 0);
        Due.is("look(1, 2)", y.look(1, 2), 16);
    }

    private static void asLongAsItIsUp() {
        ScarredLog x = voted();
        Due.votes(x, 0, 1, 0);
        Due.is("chosen(0, 1)", x.chosen(0, 1), 1);
        Due.scar(x, 0);
        Due.is("look(0, 3)", x.look(0, 3), 0);
        Due.is("look(0, 4)", x.look(0, 4), 0);
        Due.is("look(0, 5)", x.look(0, 5), 0);
        Due.is("chosen(0, 1)", x.chosen(0, 1), -1);
        Due.is("value(0, 0)", x.value(0, 0), 0);
        Due.is("route(1, 0)", x.route(1, 0), 0);
        // The next term has none of the assigned, the fixed and the voters of the lost one.
        Due.begin(x, 0, 0, 2);
        Due.is("vote(0, 2, 2)", x.vote(0, 2, 2), 1);
        Due.is("chosen(0, 2)", x.chosen(0, 2), -1);
    }
}
