import java.util.Arrays;
import java.util.Random;

/**
 * Random runs with much harm, in which it is only counted whether what was promised, voted and chosen
 * stays so. Bits of sector 0's second half are left alone: a flip there that just fits a promise torn
 * later makes the sector right with a ballot that sector 1 lacks, and the document does not mend that.
 */
final class HarmedRuns {
    private static final int CALLS = 512;
    /** A restart with a look at all slots, or the last look at the maps of five nodes. */
    private static final int DEAREST_STEP = 11;
    private static final int LAST_LOOK = 25;
    private static final int SLOTS = 8;

    int differing;
    int differingMaps;
    int promisesGivenUp;
    int votesLost;
    int timesChosen;
    int timesChosenAgain;
    int timesBlocked;
    int timesMended;
    int timesMute;

    private Random random;
    private ScarredLog log;
    private int size;
    private int slotsUsed;
    private int leader;
    private int requests;
    private int calls;
    private int[] agreed;
    private int[] promised;
    private int[][] voted;

    void run(long seed) {
        random = new Random(seed);
        size = random.nextInt(3) == 0 ? 5 : 3;
        slotsUsed = 1 + random.nextInt(2);
        log = new ScarredLog(size);
        leader = 0;
        requests = 0;
        agreed = new int[SLOTS + 1];
        Arrays.fill(agreed, -1);
        promised = new int[size];
        voted = new int[size][SLOTS + 1];
        calls = 0;
        while (calls <= CALLS - LAST_LOOK - DEAREST_STEP) {
            step();
        }
        lookAtMaps();
    }

    private int node() {
        return random.nextInt(size);
    }

    private int head() {
        return random.nextInt(6) == 0 ? node() : leader;
    }

    private int place() {
        return 1 + random.nextInt(slotsUsed);
    }

    private void step() {
        int pick = random.nextInt(100);
        calls++;
        if (pick < 4) {
            requests = Math.max(requests, log.ask(random.nextInt(4), calls));
        } else if (pick < 10) {
            lead(node());
        } else if (pick < 30) {
            promise(head(), node());
        } else if (pick < 38) {
            log.route(1 + random.nextInt(1 + requests), head());
        } else if (pick < 64) {
            vote(head(), node(), place());
        } else if (pick < 70) {
            timesMended += log.mend(node(), node(), place()) == 1 ? 1 : 0;
        } else if (pick < 76) {
            tell(node(), node());
        } else if (pick < 86) {
            restart(node());
        } else {
            harm(pick);
        }
    }

    private void harm(int pick) {
        int n = node();
        int sector = random.nextInt(8) == 0 ? random.nextInt(2) : 2 + random.nextInt(2 * slotsUsed);
        if (pick < 90) {
            log.crash(n);
        } else if (pick < 94) {
            log.arm(n, random.nextInt(4));
        } else if (pick < 97) {
            log.flip(n, sector, random.nextInt(sector == 0 ? 32 : 64));
        } else {
            log.wipe(n, sector);
        }
    }

    private void lead(int n) {
        int ballot = log.lead(n);
        if (ballot > 0) {
            leader = n;
            promised[n] = ballot;
        }
    }

    private void promise(int n, int a) {
        if (log.promise(n, a) == 1) {
            calls++;
            promised[a] = Math.max(promised[a], log.look(n, 3));
        }
    }

    private void vote(int n, int a, int s) {
        int answer = log.vote(n, a, s);
        timesBlocked += answer == -5 ? 1 : 0;
        if (answer > 0) {
            calls++;
            int ballot = log.look(n, 3);
            promised[a] = Math.max(promised[a], ballot);
            voted[a][s] = Math.max(voted[a][s], ballot);
        }
        if (answer == 2) {
            timesChosen++;
            timesChosenAgain += agreed[s] >= 0 ? 1 : 0;
            agree(n, s);
        }
    }

    private void tell(int n, int m) {
        log.tell(n, m);
        for (int s = 1; s <= SLOTS; s++) {
            agree(m, s);
        }
    }

    private void agree(int n, int s) {
        calls++;
        int command = log.chosen(n, s);
        if (command >= 0 && agreed[s] >= 0 && command != agreed[s]) {
            differing++;
        }
        agreed[s] = command >= 0 ? command : agreed[s];
    }

    private void restart(int n) {
        if (!log.restart(n)) {
            return;
        }
        calls += 2 + SLOTS;
        boolean isMute = log.look(n, 1) == 1;
        int found = log.look(n, 2);
        timesMute += isMute ? 1 : 0;
        promisesGivenUp += !isMute && found < promised[n] ? 1 : 0;
        for (int s = 1; s <= SLOTS; s++) {
            int state = log.slot(n, s);
            int ballot = state < 0 ? -2 - state : state / 64;
            votesLost += ballot < voted[n][s] ? 1 : 0;
        }
    }

    private void lookAtMaps() {
        String[] maps = new String[size];
        int[] done = new int[size];
        for (int n = 0; n < size; n++) {
            done[n] = log.look(n, 5);
            maps[n] = "";
            for (int key = 0; key < 4; key++) {
                maps[n] += " " + log.value(n, key);
            }
            for (int m = 0; m < n; m++) {
                differingMaps += done[m] == done[n] && !maps[m].equals(maps[n]) ? 1 : 0;
            }
        }
    }
}
