public final class Promise13WipeTest {
    public static void main(String[] args) {
        ScarredLog x = Due.led(3, 0, 0, 1);
        Due.votes(x, 0, 8, 0);
        String before = Due.sight(x);
        Due.no("wipe(-1, 0)", x.wipe(-1, 0));
        Due.no("wipe(3, 0)", x.wipe(3, 0));
        Due.no("wipe(0, -1)", x.wipe(0, -1));
        Due.no("wipe(0, 18)", x.wipe(0, 18));
        Due.same("wipe", before, x);
        for (int sector = 0; sector < 18; sector++) {
            Due.yes("wipe(0, " + sector + ")", x.wipe(0, sector));
            Due.sector(x, 0, sector, 0, 0, 0, 0, 0, 0, 0, 0);
            Due.no("wipe(0, " + sector + ") again", x.wipe(0, sector));
            Due.no("flip(0, " + sector + ", 0)", x.flip(0, sector, 0));
        }
        Due.sector(x, 1, 0, 0, 0, 0, 8);
        Due.is("slot(0, 8): not found yet", x.slot(0, 8), 512);
        x.crash(0);
        x.restart(0);
        Due.is("slot(0, 8)", x.slot(0, 8), -1000000);
        Due.is("look(0, 1)", x.look(0, 1), 1);
        x.crash(1);
        Due.yes("wipe(1, 0): down", x.wipe(1, 0));
        x.restart(1);
        Due.is("look(1, 2)", x.look(1, 2), 8);
        // A sector torn by a write is wrong, so that it can't be wiped.
        x.arm(1, 0);
        Due.is("lead(1)", x.lead(1), -4);
        Due.no("wipe(1, 0)", x.wipe(1, 0));
        Due.yes("wipe(1, 1)", x.wipe(1, 1));
        Due.end();
    }
}
