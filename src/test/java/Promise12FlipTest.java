public final class Promise12FlipTest {
    public static void main(String[] args) {
        everyBit();
        wrongInputs();
        upOrDown();
        Due.end();
    }

    private static void everyBit() {
        for (int bit = 0; bit < 64; bit++) {
            ScarredLog x = new ScarredLog(5);
            int sector = bit % 18;
            Due.yes("flip(4, " + sector + ", " + bit + ")", x.flip(4, sector, bit));
            for (int i = 0; i < 144; i++) {
                int fresh = i % 8 < 4 ? 0 : 255;
                int want = i == 8 * sector + bit / 8 ? fresh ^ (1 << (bit % 8)) : fresh;
                Due.is("octet(4, " + i + ")", x.octet(4, i), want);
            }
            Due.no("flip(4, " + sector + ", " + bit + ") again", x.flip(4, sector, bit));
            Due.no("flip of another bit", x.flip(4, sector, 63 - bit));
            Due.no("wipe", x.wipe(4, sector));
            Due.yes("flip of another sector", x.flip(4, (sector + 1) % 18, bit));
            Due.yes("flip at another node", x.flip(3, sector, bit));
        }
    }

    private static void wrongInputs() {
        ScarredLog x = new ScarredLog(3);
        String before = Due.sight(x);
        Due.no("flip(-1, 0, 0)", x.flip(-1, 0, 0));
        Due.no("flip(3, 0, 0)", x.flip(3, 0, 0));
        Due.no("flip(0, -1, 0)", x.flip(0, -1, 0));
        Due.no("flip(0, 18, 0)", x.flip(0, 18, 0));
        Due.no("flip(0, 0, -1)", x.flip(0, 0, -1));
        Due.no("flip(0, 0, 64)", x.flip(0, 0, 64));
        Due.no("flip(0, max, 0)", x.flip(0, Integer.MAX_VALUE, 0));
        Due.no("flip(0, 0, min)", x.flip(0, 0, Integer.MIN_VALUE));
        Due.same("flip", before, x);
        Due.yes("flip(0, 17, 63)", x.flip(0, 17, 63));
        Due.is("octet(0, 143)", x.octet(0, 143), 127);
    }

    private static void upOrDown() {
        ScarredLog x = new ScarredLog(3);
        x.crash(0);
        Due.yes("flip(0, 0, 3): down", x.flip(0, 0, 3));
        x.restart(0);
        Due.yes("flip(0, 1, 3): up", x.flip(0, 1, 3));
        Due.is("look(0, 1)", x.look(0, 1), 0);
        // A sector written anew is not wrong any more.
        Due.is("lead(0)", x.lead(0), 8);
        Due.yes("flip(0, 0, 3)", x.flip(0, 0, 3));
    }
}
