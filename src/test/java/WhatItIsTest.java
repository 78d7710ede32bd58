/**
 * The document's first sentence, a test for each part of it. It tells no call's answer but what all calls
 * together come to, so these tests hold for any reading of a single rule that keeps what it says.
 */
public final class WhatItIsTest {
    public static void main(String[] args) {
        Due.sentence("A small map kept by nodes that agree on a log, slot by slot", WhatItIsTest::agreement);
        Due.sentence("what is damaged is noticed", WhatItIsTest::noticed);
        Due.sentence("told from what was only cut off", WhatItIsTest::cutOff);
        Due.sentence("got back from others", WhatItIsTest::gotBack);
        Due.sentence("or blocks just that slot", WhatItIsTest::blocksOne);
        Due.sentence("and no promise is given up", WhatItIsTest::noPromiseGivenUp);
        Due.sentence("and no promise is given up: at whatever write the node goes down", WhatItIsTest::tornPromises);
        Due.end();
    }

    private static void agreement() {
        HarmedRuns runs = new HarmedRuns();
        for (int seed = 0; seed < 20000; seed++) {
            runs.run(seed);
        }
        Due.is("commands of one slot that differ", runs.differing, 0);
        Due.is("maps that differ with as many slots done", runs.differingMaps, 0);
        Due.is("promises given up", runs.promisesGivenUp, 0);
        Due.is("votes that were lost and not noticed", runs.votesLost, 0);
        // The runs are worth nothing if nothing befell.
        Due.yes("commands were chosen", runs.timesChosen > 4000);
        Due.yes("commands were chosen again in a later term", runs.timesChosenAgain > 400);
        Due.yes("slots were blocked", runs.timesBlocked > 1000);
        Due.yes("slots were got back", runs.timesMended > 100);
        Due.yes("nodes were mute", runs.timesMute > 1000);
    }

    /** One request chosen for slot 1 at node 0 with the votes of 0 and 1, all in ballot 8. */
    private static ScarredLog withOneChosen() {
        ScarredLog x = Due.led(3, 0, 0, 1);
        Due.is("ask", x.ask(0, 5), 1);
        Due.is("ask", x.ask(1, 6), 2);
        Due.is("route", x.route(1, 0), 1);
        Due.votes(x, 0, 1, 0, 1);
        return x;
    }

    private static void noticed() {
        for (int bit = 0; bit < 64; bit++) {
            ScarredLog x = withOneChosen();
            Due.yes("crash", x.crash(1));
            Due.yes("flip of bit " + bit, x.flip(1, 2, bit));
            Due.yes("restart", x.restart(1));
            Due.is("slot, entry flipped in bit " + bit, x.slot(1, 1), -10);
            Due.yes("crash", x.crash(1));
            Due.yes("flip of bit " + bit, x.flip(1, 3, bit));
            Due.yes("restart", x.restart(1));
            Due.is("slot, both flipped in bit " + bit, x.slot(1, 1), -1000000);
        }
        ScarredLog x = withOneChosen();
        Due.scar(x, 1, 2);
        Due.is("slot, entry wiped", x.slot(1, 1), -10);
        Due.scar(x, 1, 3);
        Due.is("slot, both wiped", x.slot(1, 1), -1000000);
    }

    /** A first vote that was cut off leaves a wrong entry too, but was never given, and hinders nothing. */
    private static void cutOff() {
        ScarredLog x = Due.led(3, 0, 0, 1);
        Due.yes("arm", x.arm(1, 0));
        Due.is("vote that is cut off", x.vote(0, 1, 1), -4);
        Due.no("the entry is wrong, so that it can't be flipped", x.flip(1, 2, 0));
        Due.yes("restart", x.restart(1));
        Due.is("slot", x.slot(1, 1), 0);
        Due.begin(x, 1, 1, 2);
        Due.is("plan", x.plan(1, 1), -3);
    }

    private static void gotBack() {
        ScarredLog x = withOneChosen();
        Due.scar(x, 1, 2);
        Due.is("lead with a damaged slot", x.lead(1), 0);
        Due.is("mend", x.mend(1, 0, 1), 1);
        Due.is("slot", x.slot(1, 1), 513);
        Due.scar(x, 0, 2, 3);
        Due.begin(x, 1, 1, 2);
        Due.is("plan", x.plan(1, 1), 1);
        Due.is("promise of one that lost the slot", x.promise(1, 0), 1);
        Due.is("plan", x.plan(1, 1), 1);
    }

    private static void blocksOne() {
        ScarredLog x = withOneChosen();
        Due.is("route", x.route(2, 0), 2);
        Due.votes(x, 0, 2, 0, 1);
        Due.scar(x, 0, 2, 3);
        Due.scar(x, 1, 2, 3);
        Due.begin(x, 2, 0, 1, 2);
        Due.is("plan of the damaged slot", x.plan(2, 1), -2);
        Due.is("vote for it", x.vote(2, 2, 1), -5);
        Due.is("plan of the slot behind it", x.plan(2, 2), 2);
        Due.is("route", x.route(1, 2), 3);
        for (int s = 2; s <= 8; s++) {
            Due.is("vote for " + s, x.vote(2, 2, s), 1);
            Due.is("second vote for " + s, x.vote(2, 0, s), 2);
        }
        Due.is("chosen", x.chosen(2, 2), 2);
        Due.is("chosen", x.chosen(2, 3), 1);
        Due.is("slots done", x.look(2, 5), 0);
    }

    private static void noPromiseGivenUp() {
        for (int lost = 0; lost < 4; lost++) {
            ScarredLog x = new ScarredLog(3);
            Due.begin(x, 2, 1);
            Due.is("lead", x.lead(0), 8);
            Due.yes("crash", x.crash(1));
            Due.is("wipe of sector 0", x.wipe(1, 0) ? 1 : 0, 1);
            if (lost > 0) {
                Due.yes("flip in sector 1", x.flip(1, 1, 20 * lost));
            }
            Due.yes("restart", x.restart(1));
            Due.is("mute", x.look(1, 1), lost > 0 ? 1 : 0);
            Due.is("promise to a lesser ballot", x.promise(0, 1), lost > 0 ? -2 : -3);
        }
    }

    /** A promise that is given comes back, and one that is cut off never takes the older one with it. */
    private static void tornPromises() {
        for (int k = 0; k < 2; k++) {
            ScarredLog x = new ScarredLog(3);
            Due.begin(x, 1, 2);
            Due.begin(x, 0);
            Due.is("lead", x.lead(0), 16);
            Due.yes("arm", x.arm(2, k));
            Due.is("promise that is cut off", x.promise(0, 2), -4);
            Due.yes("restart", x.restart(2));
            Due.is("promised", x.look(2, 2), k == 0 ? 9 : 16);
            Due.is("promise", x.promise(0, 2), 1);
            Due.scar(x, 2);
            Due.is("promised", x.look(2, 2), 16);
            Due.is("promise to a lesser ballot", x.promise(1, 2), -3);
        }
    }
}
