/** The boundaries that the document names of the DISK and of writing a sector, a test for each sentence. */
public final class EdgesDiskTest {
    public static void main(String[] args) {
        Due.sentence("SECTORS 0 .. 17 of eight bytes", EdgesDiskTest::sectors);
        Due.sentence("four of CONTENT, then the same four, each xor 255", EdgesDiskTest::content);
        Due.sentence("A sector whose last four bytes are not that is WRONG", EdgesDiskTest::wrong);
        Due.sentence("At first all contents are 0", EdgesDiskTest::atFirst);
        Due.sentence("Sectors 0 and 1 hold PROMISES: 0, 0, and a ballot as two bytes, the high one first",
            EdgesDiskTest::promises);
        Due.sentence("sector 2s the ENTRY of slot s: s, its command, the ballot of the vote likewise",
            EdgesDiskTest::entries);
        Due.sentence("sector 2s + 1 its MARKER: s, 0, that ballot", EdgesDiskTest::markers);
        Due.sentence("An entry or marker whose ballot is 0 is BLANK", EdgesDiskTest::blank);
        Due.sentence("if the node is ARMED with 0, only its first four bytes change", EdgesDiskTest::torn);
        Due.sentence("the node goes down, and what it was doing ends there", EdgesDiskTest::endsThere);
        Due.sentence("otherwise all eight bytes change", EdgesDiskTest::allEight);
        Due.sentence("and if it is armed, the number is one less", EdgesDiskTest::oneLess);
        Due.sentence("To write a promise: sector 0, then sector 1", EdgesDiskTest::promiseOrder);
        Due.sentence("To write a vote: the entry, then the marker", EdgesDiskTest::voteOrder);
        Due.end();
    }

    private static void sectors() {
        ScarredLog x = new ScarredLog(3);
        Due.yes("wipe(2, 0)", x.wipe(2, 0));
        Due.yes("wipe(2, 17)", x.wipe(2, 17));
        Due.sector(x, 2, 0, 0, 0, 0, 0, 0, 0, 0, 0);
        Due.sector(x, 2, 1, 0, 0, 0, 0);
        Due.sector(x, 2, 16, 0, 0, 0, 0);
        Due.sector(x, 2, 17, 0, 0, 0, 0, 0, 0, 0, 0);
        Due.no("wipe(2, 18)", x.wipe(2, 18));
        Due.no("wipe(2, -1)", x.wipe(2, -1));
        Due.is("octet(2, 143)", x.octet(2, 143), 0);
        Due.is("octet(2, 144)", x.octet(2, 144), -1);
    }

    private static void content() {
        ScarredLog x = filled();
        for (int sector = 0; sector < 18; sector++) {
            for (int i = 8 * sector; i < 8 * sector + 4; i++) {
                Due.is("octet(1, " + (i + 4) + ")", x.octet(1, i + 4), x.octet(1, i) ^ 255);
            }
        }
    }

    /** Node 1 voted for all eight slots with ballot 264, so that no two bytes of an entry are alike. */
    private static ScarredLog filled() {
        ScarredLog x = withBallot(264);
        for (int s = 1; s <= 8; s++) {
            x.ask(0, s);
        }
        Due.is("route(1, 0)", x.route(1, 0), 1);
        for (int s = 1; s <= 8; s++) {
            Due.is("route", x.route(9 - s, 0), s == 8 ? 1 : s + 1);
        }
        for (int s = 1; s <= 8; s++) {
            Due.votes(x, 0, s, 1);
        }
        return x;
    }

    /** Node 0 leads with the ballot given, a multiple of 8, and nodes 0 and 1 promised it. */
    private static ScarredLog withBallot(int ballot) {
        ScarredLog x = new ScarredLog(3);
        for (int b = 8; b <= ballot; b += 8) {
            Due.is("lead(0)", x.lead(0), b);
        }
        Due.is("promise(0, 0)", x.promise(0, 0), 1);
        Due.is("promise(0, 1)", x.promise(0, 1), 1);
        return x;
    }

    /** Whichever bit of whichever byte differs; a wiped sector too, though its halves are alike. */
    private static void wrong() {
        for (int bit = 0; bit < 64; bit++) {
            ScarredLog x = new ScarredLog(3);
            x.crash(0);
            Due.yes("flip(0, 0, " + bit + ")", x.flip(0, 0, bit));
            Due.yes("flip(0, 1, " + bit + ")", x.flip(0, 1, bit));
            Due.yes("flip(0, 2, " + bit + ")", x.flip(0, 2, bit));
            Due.yes("flip(0, 3, " + bit + ")", x.flip(0, 3, bit));
            Due.no("flip(0, 0, " + bit + ") back", x.flip(0, 0, bit));
            x.restart(0);
            Due.is("look(0, 1)", x.look(0, 1), 1);
            Due.is("slot(0, 1)", x.slot(0, 1), -1000000);
        }
        ScarredLog y = new ScarredLog(3);
        Due.scar(y, 0, 0, 1, 2, 3);
        Due.is("look(0, 1)", y.look(0, 1), 1);
        Due.is("slot(0, 1)", y.slot(0, 1), -1000000);
    }

    private static void atFirst() {
        for (int size : new int[] {3, 5}) {
            ScarredLog x = new ScarredLog(size);
            for (int sector = 0; sector < 18; sector++) {
                Due.sector(x, size - 1, sector, 0, 0, 0, 0);
            }
            Due.scar(x, size - 1);
            Due.is("look: promised", x.look(size - 1, 2), 0);
            Due.is("look: mute", x.look(size - 1, 1), 0);
            for (int s = 1; s <= 8; s++) {
                Due.is("slot", x.slot(size - 1, s), 0);
            }
        }
    }

    /** The ballots before and behind the one that no longer goes into one byte. */
    private static void promises() {
        for (int ballot : new int[] {8, 248, 256, 264, 2048}) {
            ScarredLog x = withBallot(ballot);
            for (int sector = 0; sector <= 1; sector++) {
                Due.sector(x, 0, sector, 0, 0, ballot / 256, ballot % 256);
                Due.sector(x, 1, sector, 0, 0, ballot / 256, ballot % 256);
            }
            Due.scar(x, 1);
            Due.is("look(1, 2)", x.look(1, 2), ballot);
        }
    }

    private static void entries() {
        ScarredLog x = filled();
        Due.sector(x, 1, 2, 1, 1, 1, 8);
        for (int s = 2; s <= 8; s++) {
            Due.sector(x, 1, 2 * s, s, 10 - s, 1, 8);
        }
        ScarredLog y = new ScarredLog(3);
        for (int q = 1; q <= 30; q++) {
            y.ask(0, q);
        }
        Due.begin(y, 2, 2, 1);
        Due.is("route(30, 2)", y.route(30, 2), 1);
        Due.votes(y, 2, 1, 0);
        Due.votes(y, 2, 2, 0);
        Due.sector(y, 0, 2, 1, 30, 0, 10);
        Due.sector(y, 0, 4, 2, 0, 0, 10);
    }

    private static void markers() {
        ScarredLog x = filled();
        for (int s = 1; s <= 8; s++) {
            Due.sector(x, 1, 2 * s + 1, s, 0, 1, 8);
        }
    }

    /** Not blank are one with a high byte alone, one with a low byte alone, and one with the command NOTHING. */
    private static void blank() {
        for (int ballot : new int[] {8, 256, 264}) {
            ScarredLog x = withBallot(ballot);
            Due.votes(x, 0, 1, 1);
            Due.votes(x, 0, 2, 1);
            Due.scar(x, 1, 4);
            Due.is("slot(1, 1): an entry of " + ballot, x.slot(1, 1), 64 * ballot);
            Due.is("slot(1, 2): a marker of " + ballot, x.slot(1, 2), -2 - ballot);
            Due.is("slot(1, 3): a blank entry", x.slot(1, 3), 0);
            Due.scar(x, 1, 6);
            Due.is("slot(1, 3): a blank marker", x.slot(1, 3), 0);
        }
    }

    private static void torn() {
        ScarredLog x = withBallot(256);
        Due.yes("arm(1, 0)", x.arm(1, 0));
        x.lead(0);
        Due.is("promise(0, 1)", x.promise(0, 1), -4);
        Due.sector(x, 1, 0, 0, 0, 1, 8, 255, 255, 254, 255);
        // Even the bytes of a wiped sector stay.
        ScarredLog y = withBallot(8);
        Due.yes("wipe(1, 16)", y.wipe(1, 16));
        Due.yes("arm(1, 0)", y.arm(1, 0));
        Due.is("vote(0, 1, 8)", y.vote(0, 1, 8), -4);
        Due.sector(y, 1, 16, 8, 0, 0, 8, 0, 0, 0, 0);
    }

    private static void endsThere() {
        ScarredLog x = withBallot(8);
        Due.yes("arm(2, 0)", x.arm(2, 0));
        Due.is("vote(0, 2, 1)", x.vote(0, 2, 1), -4);
        Due.is("look(2, 0)", x.look(2, 0), 0);
        Due.is("look(2, 6)", x.look(2, 6), -1);
        for (int sector = 1; sector <= 3; sector++) {
            Due.sector(x, 2, sector, 0, 0, 0, 0);
        }
        Due.is("vote(0, 0, 1): node 2 was no voter", x.vote(0, 0, 1), 1);
    }

    private static void allEight() {
        ScarredLog x = withBallot(8);
        for (int sector = 0; sector <= 3; sector++) {
            Due.yes("wipe(2, " + sector + ")", x.wipe(2, sector));
        }
        Due.votes(x, 0, 1, 2);
        Due.sector(x, 2, 0, 0, 0, 0, 8);
        Due.sector(x, 2, 1, 0, 0, 0, 8);
        Due.sector(x, 2, 2, 1, 0, 0, 8);
        Due.sector(x, 2, 3, 1, 0, 0, 8);
        // A sector that was flipped in one half alone is right again too.
        Due.yes("flip(2, 2, 63)", x.flip(2, 2, 63));
        Due.yes("flip(2, 3, 0)", x.flip(2, 3, 0));
        Due.votes(x, 0, 1, 2);
        Due.sector(x, 2, 2, 1, 0, 0, 8);
        Due.sector(x, 2, 3, 1, 0, 0, 8);
    }

    private static void oneLess() {
        ScarredLog x = withBallot(8);
        Due.yes("arm(1, 40)", x.arm(1, 40));
        for (int left = 38; left >= 0; left -= 2) {
            Due.votes(x, 0, 1, 1);
            Due.is("look(1, 6)", x.look(1, 6), left);
        }
        Due.is("vote(0, 1, 1): none left", x.vote(0, 1, 1), -4);
        ScarredLog y = withBallot(8);
        Due.votes(y, 0, 1, 1);
        Due.is("look(1, 6): not armed, not less", y.look(1, 6), -1);
        Due.is("look(0, 6): no other's number", y.look(0, 6), -1);
    }

    private static void promiseOrder() {
        ScarredLog x = withBallot(8);
        x.lead(0);
        Due.yes("arm(1, 1)", x.arm(1, 1));
        Due.is("promise(0, 1)", x.promise(0, 1), -4);
        Due.sector(x, 1, 0, 0, 0, 0, 16);
        Due.sector(x, 1, 1, 0, 0, 0, 16, 255, 255, 255, 247);
        ScarredLog y = withBallot(8);
        y.lead(0);
        Due.yes("arm(1, 0)", y.arm(1, 0));
        Due.is("promise(0, 1)", y.promise(0, 1), -4);
        Due.sector(y, 1, 0, 0, 0, 0, 16, 255, 255, 255, 247);
        Due.sector(y, 1, 1, 0, 0, 0, 8);
    }

    private static void voteOrder() {
        ScarredLog x = withBallot(8);
        Due.yes("arm(1, 0)", x.arm(1, 0));
        Due.is("vote(0, 1, 5)", x.vote(0, 1, 5), -4);
        Due.sector(x, 1, 10, 5, 0, 0, 8, 255, 255, 255, 255);
        Due.sector(x, 1, 11, 0, 0, 0, 0);
        x.restart(1);
        Due.yes("arm(1, 1)", x.arm(1, 1));
        Due.is("vote(0, 1, 5)", x.vote(0, 1, 5), -4);
        Due.sector(x, 1, 10, 5, 0, 0, 8);
        Due.sector(x, 1, 11, 5, 0, 0, 8, 255, 255, 255, 255);
    }
}
