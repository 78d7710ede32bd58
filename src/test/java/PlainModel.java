import java.util.ArrayList;
import java.util.HashMap;
import java.util.HashSet;
import java.util.List;
import java.util.Map;
import java.util.Set;

/**
 * The document told a second time, with the Java library and without care for cost: the disk is texts
 * of bits, the map is worked out anew for each question. Only the tests use it.
 */
final class PlainModel {
    private static final class Down extends Exception {
        private static final long serialVersionUID = 1;
    }

    private record Request(int key, int number) {
    }

    /** Kind 'E' empty, 'W' whole, 'D' damaged; ballot null if unknown. */
    private record Found(char kind, Integer ballot, int command) {
        int code() {
            if (kind == 'E') {
                return 0;
            }
            if (kind == 'W') {
                return 64 * ballot + command;
            }
            return ballot == null ? -1000000 : -2 - ballot;
        }
    }

    private static final Found EMPTY = new Found('E', 0, 0);

    private static final class Reign {
        final int ballot;
        final Map<Integer, List<Found>> told = new HashMap<>();
        final Map<Integer, Integer> assigned = new HashMap<>();
        final Map<Integer, Integer> fixed = new HashMap<>();
        final Map<Integer, Set<Integer>> voters = new HashMap<>();

        Reign(int ballot) {
            this.ballot = ballot;
        }
    }

    private static final class Member {
        final int[][] sectors = new int[18][];
        boolean up = true;
        Integer promised = 0;
        Integer armed;
        Reign reign;
        List<Found> slots = new ArrayList<>();
        final Map<Integer, Integer> chosen = new HashMap<>();
    }

    private final List<Member> members = new ArrayList<>();
    private final List<Request> requests = new ArrayList<>();
    private final Map<Integer, List<Integer>> heard = new HashMap<>();

    PlainModel(int n) {
        for (int i = 0; i < (n == 5 ? 5 : 3); i++) {
            Member m = new Member();
            for (int k = 0; k < 18; k++) {
                m.sectors[k] = new int[] {0, 0, 0, 0, 255, 255, 255, 255};
            }
            for (int s = 1; s <= 8; s++) {
                m.slots.add(EMPTY);
            }
            members.add(m);
        }
    }

    private boolean majority(int count) {
        return count > members.size() / 2;
    }

    private Member at(int n) {
        return n < 0 || n >= members.size() ? null : members.get(n);
    }

    private static boolean wrong(int[] sector) {
        for (int i = 0; i < 4; i++) {
            if ((sector[i] ^ sector[i + 4]) != 255) {
                return true;
            }
        }
        return false;
    }

    private static int ballot(int[] sector) {
        return sector[2] << 8 | sector[3];
    }

    private static void fall(Member m) {
        m.up = false;
        m.armed = null;
        m.reign = null;
        m.chosen.clear();
    }

    private static void write(Member m, int sector, int... content) throws Down {
        boolean torn = m.armed != null && m.armed == 0;
        for (int i = 0; i < 4; i++) {
            m.sectors[sector][i] = content[i];
            if (!torn) {
                m.sectors[sector][i + 4] = 255 - content[i];
            }
        }
        if (torn) {
            fall(m);
            throw new Down();
        }
        if (m.armed != null) {
            m.armed = m.armed - 1;
        }
    }

    private static void promiseAt(Member m, int b) throws Down {
        if (m.promised < b) {
            write(m, 0, 0, 0, b >> 8, b & 255);
            write(m, 1, 0, 0, b >> 8, b & 255);
            m.promised = b;
        }
    }

    private static void voteAt(Member m, int s, int command, int b) throws Down {
        write(m, 2 * s, s, command, b >> 8, b & 255);
        write(m, 2 * s + 1, s, 0, b >> 8, b & 255);
        m.slots.set(s - 1, new Found('W', b, command));
    }

    int ask(int key, int v) {
        if (key < 0 || key > 3 || requests.size() >= 30) {
            return -1;
        }
        requests.add(new Request(key, v));
        return requests.size();
    }

    int lead(int n) {
        Member m = at(n);
        if (m == null) {
            return -1;
        }
        if (!m.up || m.promised == null) {
            return 0;
        }
        for (Found f : m.slots) {
            if (f.kind() == 'D') {
                return 0;
            }
        }
        int b = 8 + n;
        while (b <= m.promised) {
            b += 8;
        }
        if (b > 60000) {
            return 0;
        }
        try {
            promiseAt(m, b);
        } catch (Down d) {
            return -4;
        }
        m.reign = new Reign(b);
        return b;
    }

    int promise(int n, int a) {
        Member m = at(n);
        Member o = at(a);
        if (m == null || o == null) {
            return -1;
        }
        if (!m.up || m.reign == null) {
            return 0;
        }
        if (!o.up || o.promised == null) {
            return -2;
        }
        if (o.promised > m.reign.ballot) {
            return -3;
        }
        try {
            promiseAt(o, m.reign.ballot);
        } catch (Down d) {
            return -4;
        }
        m.reign.told.put(a, new ArrayList<>(o.slots));
        return 1;
    }

    private boolean rules(Member m) {
        return m.up && m.reign != null && majority(m.reign.told.size());
    }

    /** null FREE, -2 BLOCKED. */
    private Integer planIn(Reign r, int s) {
        Found h = null;
        int sound = 0;
        for (List<Found> row : r.told.values()) {
            Found f = row.get(s - 1);
            if (f.kind() != 'D') {
                sound++;
            }
            if (f.kind() == 'W' && (h == null || f.ballot() > h.ballot())) {
                h = f;
            }
        }
        boolean allBelow = true;
        for (List<Found> row : r.told.values()) {
            Found f = row.get(s - 1);
            if (f.kind() == 'D' && (f.ballot() == null || f.ballot() > (h == null ? 0 : h.ballot()))) {
                allBelow = false;
            }
        }
        if (!majority(sound) && !allBelow) {
            return -2;
        }
        return h == null ? null : Integer.valueOf(h.command());
    }

    /** The answers of the requests done, and under -1 - key the numbers; under -9 the slots done. */
    private Map<Integer, Integer> mapOf(Member m) {
        Map<Integer, Integer> out = new HashMap<>();
        for (int key = 0; key < 4; key++) {
            out.put(-1 - key, 0);
        }
        int s = 1;
        while (m.chosen.containsKey(s)) {
            int c = m.chosen.get(s);
            if (c != 0 && !out.containsKey(c)) {
                Request q = requests.get(c - 1);
                out.put(c, out.get(-1 - q.key()));
                out.put(-1 - q.key(), q.number());
            }
            s++;
        }
        out.put(-9, s - 1);
        return out;
    }

    int route(int q, int n) {
        Member m = at(n);
        if (q < 1 || q > requests.size() || m == null) {
            return -1;
        }
        if (!m.up) {
            return 0;
        }
        Map<Integer, Integer> map = mapOf(m);
        if (map.containsKey(q)) {
            heard.computeIfAbsent(q, k -> new ArrayList<>()).add(map.get(q));
            return 100;
        }
        if (!rules(m)) {
            return 0;
        }
        for (int s = 1; s <= 8; s++) {
            if (Integer.valueOf(q).equals(m.reign.assigned.get(s))) {
                return s;
            }
        }
        for (int s = 1; s <= 8; s++) {
            boolean fits = true;
            for (int t = s; t <= 8; t++) {
                fits = fits && planIn(m.reign, t) == null && !m.reign.assigned.containsKey(t)
                        && !m.reign.fixed.containsKey(t);
            }
            if (fits) {
                m.reign.assigned.put(s, q);
                return s;
            }
        }
        return -2;
    }

    int vote(int n, int a, int s) {
        Member m = at(n);
        Member o = at(a);
        if (m == null || o == null || s < 1 || s > 8) {
            return -1;
        }
        if (!rules(m)) {
            return 0;
        }
        if (!o.up || o.promised == null) {
            return -2;
        }
        Reign r = m.reign;
        if (o.promised > r.ballot) {
            return -3;
        }
        if (!r.fixed.containsKey(s)) {
            Integer plan = planIn(r, s);
            if (plan != null && plan == -2) {
                return -5;
            }
            r.fixed.put(s, plan != null ? plan : r.assigned.getOrDefault(s, 0));
        }
        try {
            promiseAt(o, r.ballot);
            voteAt(o, s, r.fixed.get(s), r.ballot);
        } catch (Down d) {
            return -4;
        }
        r.voters.computeIfAbsent(s, k -> new HashSet<>()).add(a);
        if (majority(r.voters.get(s).size())) {
            return m.chosen.putIfAbsent(s, r.fixed.get(s)) == null ? 2 : 1;
        }
        return 1;
    }

    int tell(int n, int m) {
        Member from = at(n);
        Member to = at(m);
        if (from == null || to == null || n == m) {
            return -1;
        }
        if (!from.up || !to.up) {
            return -2;
        }
        int before = to.chosen.size();
        from.chosen.forEach(to.chosen::putIfAbsent);
        return to.chosen.size() - before;
    }

    int mend(int n, int a, int s) {
        Member m = at(n);
        Member o = at(a);
        if (m == null || o == null || s < 1 || s > 8 || n == a) {
            return -1;
        }
        if (!m.up || !o.up || m.promised == null || o.promised == null) {
            return 0;
        }
        Found mine = m.slots.get(s - 1);
        Found other = o.slots.get(s - 1);
        if (mine.kind() != 'D' || mine.ballot() == null || other.kind() != 'W' || !mine.ballot().equals(other.ballot())) {
            return 0;
        }
        try {
            voteAt(m, s, other.command(), other.ballot());
        } catch (Down d) {
            return -4;
        }
        return 1;
    }

    boolean crash(int n) {
        Member m = at(n);
        if (m == null || !m.up) {
            return false;
        }
        fall(m);
        return true;
    }

    boolean restart(int n) {
        Member m = at(n);
        if (m == null || m.up) {
            return false;
        }
        m.up = true;
        m.promised = null;
        for (int k = 0; k < 2; k++) {
            if (!wrong(m.sectors[k]) && (m.promised == null || m.promised < ballot(m.sectors[k]))) {
                m.promised = ballot(m.sectors[k]);
            }
        }
        for (int s = 1; s <= 8; s++) {
            m.slots.set(s - 1, found(m.sectors[2 * s], m.sectors[2 * s + 1]));
        }
        return true;
    }

    private static Found found(int[] entry, int[] marker) {
        if (wrong(entry) && wrong(marker)) {
            return new Found('D', null, 0);
        }
        if (wrong(entry)) {
            return ballot(marker) == 0 ? EMPTY : new Found('D', ballot(marker), 0);
        }
        return ballot(entry) == 0 ? EMPTY : new Found('W', ballot(entry), entry[1]);
    }

    boolean arm(int n, int k) {
        Member m = at(n);
        if (m == null || !m.up || k < 0 || k > 40) {
            return false;
        }
        m.armed = k;
        return true;
    }

    boolean flip(int n, int sector, int bit) {
        Member m = at(n);
        if (m == null || sector < 0 || sector > 17 || bit < 0 || bit > 63 || wrong(m.sectors[sector])) {
            return false;
        }
        m.sectors[sector][bit / 8] ^= 1 << bit % 8;
        return true;
    }

    boolean wipe(int n, int sector) {
        Member m = at(n);
        if (m == null || sector < 0 || sector > 17 || wrong(m.sectors[sector])) {
            return false;
        }
        m.sectors[sector] = new int[8];
        return true;
    }

    int look(int n, int what) {
        Member m = at(n);
        if (m == null || what < 0 || what > 6) {
            return -1;
        }
        if (what == 6) {
            return m.armed == null ? -1 : m.armed;
        }
        if (!m.up) {
            return 0;
        }
        int bits = 0;
        if (m.reign != null) {
            for (int a : m.reign.told.keySet()) {
                bits += 1 << a;
            }
        }
        int[] all = {1, m.promised == null ? 1 : 0, m.promised == null ? 0 : m.promised,
            m.reign == null ? 0 : m.reign.ballot, bits, mapOf(m).get(-9)};
        return all[what];
    }

    int slot(int n, int s) {
        Member m = at(n);
        return m == null || s < 1 || s > 8 || !m.up ? -1 : m.slots.get(s - 1).code();
    }

    int plan(int n, int s) {
        Member m = at(n);
        if (m == null || s < 1 || s > 8 || !rules(m)) {
            return -1;
        }
        Integer p = planIn(m.reign, s);
        return p == null ? -3 : p;
    }

    int chosen(int n, int s) {
        Member m = at(n);
        return m == null || !m.up ? -1 : m.chosen.getOrDefault(s, -1);
    }

    int value(int n, int key) {
        Member m = at(n);
        return m == null || !m.up || key < 0 || key > 3 ? 0 : mapOf(m).get(-1 - key);
    }

    int octet(int n, int i) {
        Member m = at(n);
        return m == null || i < 0 || i > 143 ? -1 : m.sectors[i / 8][i % 8];
    }

    int reply(int q, boolean count) {
        List<Integer> all = heard.getOrDefault(q, List.of());
        if (count) {
            return all.size();
        }
        return all.isEmpty() ? 0 : all.get(all.size() - 1);
    }
}
