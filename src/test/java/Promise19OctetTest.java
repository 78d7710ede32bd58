public final class Promise19OctetTest {
    public static void main(String[] args) {
        ScarredLog x = Due.led(3, 0, 0, 1);
        x.ask(0, 1);
        x.route(1, 0);
        Due.votes(x, 0, 1, 1);
        Due.votes(x, 0, 8, 1);
        for (int sector = 0; sector < 18; sector++) {
            if (sector < 2) {
                Due.sector(x, 1, sector, 0, 0, 0, 8);
            } else if (sector < 4 || sector >= 16) {
                int s = sector / 2;
                Due.sector(x, 1, sector, s, sector == 2 ? 1 : 0, 0, 8);
            } else {
                Due.sector(x, 1, sector, 0, 0, 0, 0);
            }
        }
        Due.is("octet(1, -1)", x.octet(1, -1), -1);
        Due.is("octet(1, 144)", x.octet(1, 144), -1);
        Due.is("octet(-1, 0)", x.octet(-1, 0), -1);
        Due.is("octet(3, 0)", x.octet(3, 0), -1);
        Due.is("octet(1, max)", x.octet(1, Integer.MAX_VALUE), -1);
        x.crash(1);
        Due.is("octet(1, 16): of one that is down", x.octet(1, 16), 1);
        Due.is("octet(1, 143)", x.octet(1, 143), 247);
        x.restart(1);
        Due.is("octet(1, 16)", x.octet(1, 16), 1);
        Due.end();
    }
}
