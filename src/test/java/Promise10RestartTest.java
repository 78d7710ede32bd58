public final class Promise10RestartTest {
    public static void main(String[] args) {
        wrongInputs();
        promises();
        slots();
        cutOffOrDamaged();
        diskMeanwhile();
        tornButRight();
        Due.end();
    }

    private static void wrongInputs() {
        ScarredLog x = new ScarredLog(3);
        Due.no("restart(0)", x.restart(0));
        Due.no("restart(-1)", x.restart(-1));
        Due.no("restart(3)", x.restart(3));
        x.crash(2);
        Due.yes("restart(2)", x.restart(2));
        Due.no("restart(2)", x.restart(2));
        Due.is("look(2, 0)", x.look(2, 0), 1);
    }

    private static void promises() {
        ScarredLog x = new ScarredLog(3);
        x.lead(1);
        Due.scar(x, 1, 1);
        Due.is("look(1, 2)", x.look(1, 2), 9);
        Due.is("look(1, 1)", x.look(1, 1), 0);
        Due.is("octet(1, 15): nothing is written", x.octet(1, 15), 0);
        Due.is("lead(1)", x.lead(1), 17);
        Due.scar(x, 1, 0);
        Due.is("look(1, 2)", x.look(1, 2), 17);
        Due.scar(x, 1, 1);
        Due.is("look(1, 1)", x.look(1, 1), 1);
        Due.is("look(1, 2)", x.look(1, 2), 0);
        Due.is("look(1, 0)", x.look(1, 0), 1);
        Due.scar(x, 1);
        Due.is("look(1, 1): still", x.look(1, 1), 1);
        // The greater one, when sector 1 is the older: a torn sector 0 that is right by a flip before.
        ScarredLog y = new ScarredLog(3);
        y.lead(0);
        y.promise(0, 2);
        y.lead(1);
        Due.yes("flip(2, 0, 56)", y.flip(2, 0, 56));
        y.arm(2, 0);
        Due.is("promise(1, 2)", y.promise(1, 2), -4);
        y.restart(2);
        Due.is("look(2, 2)", y.look(2, 2), 9);
        Due.scar(y, 2, 0);
        Due.is("look(2, 2)", y.look(2, 2), 8);
    }

    private static void slots() {
        ScarredLog x = Due.led(3, 0, 0, 1);
        x.ask(0, 1);
        x.route(1, 0);
        for (int s = 1; s <= 8; s++) {
            Due.votes(x, 0, s, 1);
        }
        Due.scar(x, 1, 3, 4, 6, 7, 15, 16, 17);
        int[] want = {0, 513, -10, -1000000, 512, 512, 512, 512, -1000000};
        for (int s = 1; s <= 8; s++) {
            Due.is("slot(1, " + s + ")", x.slot(1, s), want[s]);
        }
        // Of a slot without a vote: empty, unless both sectors are wrong.
        Due.scar(x, 2, 2, 5, 6, 7);
        int[] fresh = {0, 0, 0, -1000000, 0};
        for (int s = 1; s <= 4; s++) {
            Due.is("slot(2, " + s + ")", x.slot(2, s), fresh[s]);
        }
    }

    private static void cutOffOrDamaged() {
        // A first vote that was cut off leaves the slot empty; a later one, damaged with the old ballot.
        ScarredLog x = Due.led(3, 0, 0, 1);
        x.arm(1, 0);
        Due.is("vote(0, 1, 1)", x.vote(0, 1, 1), -4);
        x.restart(1);
        Due.is("slot(1, 1)", x.slot(1, 1), 0);
        Due.votes(x, 0, 1, 1);
        Due.begin(x, 0, 0, 1);
        x.arm(1, 0);
        Due.is("vote(0, 1, 1)", x.vote(0, 1, 1), -4);
        x.restart(1);
        Due.is("slot(1, 1)", x.slot(1, 1), -10);
        x.arm(1, 1);
        Due.is("vote(0, 1, 1)", x.vote(0, 1, 1), -4);
        x.restart(1);
        Due.is("slot(1, 1): the marker does not matter", x.slot(1, 1), 1024);
        Due.scar(x, 1, 2);
        Due.is("slot(1, 1)", x.slot(1, 1), -1000000);
        Due.votes(x, 0, 1, 1);
        Due.is("slot(1, 1)", x.slot(1, 1), 1024);
        Due.scar(x, 1, 2);
        Due.is("slot(1, 1)", x.slot(1, 1), -18);
    }

    private static void diskMeanwhile() {
        ScarredLog x = Due.led(3, 0, 0, 1);
        Due.votes(x, 0, 1, 1);
        for (int sector = 0; sector < 4; sector++) {
            Due.yes("wipe(1, " + sector + ")", x.wipe(1, sector));
        }
        Due.is("slot(1, 1)", x.slot(1, 1), 512);
        Due.is("look(1, 2)", x.look(1, 2), 8);
        Due.is("look(1, 1)", x.look(1, 1), 0);
        Due.is("promise(0, 1)", x.promise(0, 1), 1);
        Due.is("plan(0, 1)", x.plan(0, 1), 0);
        x.crash(1);
        x.restart(1);
        Due.is("slot(1, 1)", x.slot(1, 1), -1000000);
        Due.is("look(1, 1)", x.look(1, 1), 1);
    }

    /** The same content torn over itself is right again. */
    private static void tornButRight() {
        ScarredLog x = Due.led(3, 0, 0, 1);
        Due.votes(x, 0, 1, 1);
        Due.yes("flip(1, 2, 8)", x.flip(1, 2, 8));
        x.arm(1, 0);
        Due.is("vote(0, 1, 1)", x.vote(0, 1, 1), -4);
        Due.sector(x, 1, 2, 1, 0, 0, 8);
        x.restart(1);
        Due.is("slot(1, 1)", x.slot(1, 1), 512);
    }
}
