/** Counts the answers of one test class that are not as due, and ends it with exit code 1 if there were any. */
final class Due {
    private static int wrong = 0;
    private static int looked = 0;

    private Due() {
    }

    static void is(String call, long got, long want) {
        looked++;
        if (got != want) {
            wrong++;
            System.out.println(call + " answered " + got + ", due is " + want);
        }
    }

    static void yes(String call, boolean got) {
        is(call, got ? 1 : 0, 1);
    }

    static void no(String call, boolean got) {
        is(call, got ? 1 : 0, 0);
    }

    /** A test of its own for one sentence of the document: names the sentence if an answer in it is not as due. */
    static void sentence(String sentence, Runnable test) {
        int wrongBefore = wrong;
        int lookedBefore = looked;
        try {
            test.run();
        } catch (RuntimeException e) {
            wrong++;
            e.printStackTrace(System.out);
        }
        yes("something was looked at for: " + sentence, looked > lookedBefore);
        if (wrong != wrongBefore) {
            System.out.println("BROKEN: " + sentence);
        }
    }

    static void end() {
        System.out.println(looked + " answers, " + wrong + " not as due");
        if (wrong != 0 || looked == 0) {
            System.exit(1);
        }
    }

    /** An object whose node n has a term, with the promises of the nodes given. */
    static ScarredLog led(int size, int n, int... promisers) {
        ScarredLog x = new ScarredLog(size);
        begin(x, n, promisers);
        return x;
    }

    static void begin(ScarredLog x, int n, int... promisers) {
        yes("lead(" + n + ") > 0", x.lead(n) > 0);
        for (int a : promisers) {
            is("promise(" + n + ", " + a + ")", x.promise(n, a), 1);
        }
    }

    static void votes(ScarredLog x, int n, int s, int... voters) {
        for (int a : voters) {
            yes("vote(" + n + ", " + a + ", " + s + ") > 0", x.vote(n, a, s) > 0);
        }
    }

    /** Crashes a node, wipes the sectors given and restarts it. */
    static void scar(ScarredLog x, int n, int... sectors) {
        yes("crash(" + n + ")", x.crash(n));
        for (int sector : sectors) {
            yes("wipe(" + n + ", " + sector + ")", x.wipe(n, sector));
        }
        yes("restart(" + n + ")", x.restart(n));
    }

    /** Makes a node mute. */
    static void mute(ScarredLog x, int n) {
        scar(x, n, 0, 1);
        is("look(" + n + ", 1)", x.look(n, 1), 1);
    }

    /** Numbers that are no node: too small, too large, and such as wrap round to one when they are multiplied. */
    static int[] noNodes(int size) {
        return new int[] {-1, size, size + 1, -size, 8, 32, 256, 1 << 28, 1 << 29, 1 << 30, Integer.MIN_VALUE,
            Integer.MAX_VALUE};
    }

    static int[] noSlots() {
        return new int[] {0, 9, -1, -8, 10, 17, 257, 1 << 27, (1 << 28) + 1, 1 << 30, (1 << 31) + 1,
            Integer.MIN_VALUE, Integer.MAX_VALUE};
    }

    static int[] noKeys() {
        return new int[] {-1, 4, -4, 5, 256, 1 << 30, Integer.MIN_VALUE, Integer.MAX_VALUE};
    }

    static int[] noSectors() {
        return new int[] {-1, 18, 19, -18, 256, 1 << 28, 1 << 29, (1 << 29) + 1, 1 << 30, Integer.MIN_VALUE,
            Integer.MAX_VALUE};
    }

    /**
     * All that can be seen of an object, as one text: to see that a call changed nothing. It takes more
     * calls than the document's 512, which is fine here only because this program does not count calls.
     */
    static String sight(ScarredLog x) {
        StringBuilder b = new StringBuilder();
        for (int n = 0; n < 5; n++) {
            b.append("node ").append(n).append(':');
            for (int what = 0; what <= 6; what++) {
                b.append(' ').append(x.look(n, what));
            }
            b.append(" slots");
            for (int s = 1; s <= 8; s++) {
                b.append(' ').append(x.slot(n, s)).append('/').append(x.plan(n, s)).append('/').append(x.chosen(n, s));
            }
            b.append(" map");
            for (int key = 0; key < 4; key++) {
                b.append(' ').append(x.value(n, key));
            }
            b.append(" disk");
            for (int i = 0; i < 144; i++) {
                b.append(' ').append(x.octet(n, i));
            }
            b.append('\n');
        }
        for (int q = 1; q <= 30; q++) {
            b.append(x.reply(q, false)).append('/').append(x.reply(q, true)).append(' ');
        }
        return b.toString();
    }

    static void same(String call, String before, ScarredLog x) {
        yes(call + " changed nothing", before.equals(sight(x)));
    }

    /** The eight bytes of a sector: the content as given, then the same or what is given behind it. */
    static void sector(ScarredLog x, int n, int sector, int... bytes) {
        for (int i = 0; i < 8; i++) {
            int want = i < bytes.length ? bytes[i] : bytes[i - 4] ^ 255;
            is("octet(" + n + ", " + (8 * sector + i) + ")", x.octet(n, 8 * sector + i), want);
        }
    }
}
