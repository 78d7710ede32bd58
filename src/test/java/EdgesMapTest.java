/** The boundaries that the document names of the MAP, a test for each sentence. */
public final class EdgesMapTest {
    public static void main(String[] args) {
        Due.sentence("as far as they are chosen one behind the other", EdgesMapTest::oneBehindTheOther);
        Due.sentence("done in this order", EdgesMapTest::inThisOrder);
        Due.sentence("from numbers 0 in all keys", EdgesMapTest::fromZero);
        Due.sentence("a request that was not done before gives as ANSWER the number in its key before",
            EdgesMapTest::answer);
        Due.sentence("and puts its own", EdgesMapTest::putsItsOwn);
        Due.sentence("all else does nothing: NOTHING", EdgesMapTest::nothing);
        Due.sentence("all else does nothing: a request that was done before", EdgesMapTest::doneBefore);
        Due.end();
    }

    /** Requests 1 .. 8 put 10, 20, .. into key 0 and are assigned to the slots of the same number. */
    private static ScarredLog eight() {
        ScarredLog x = Due.led(3, 0, 0, 1);
        for (int q = 1; q <= 8; q++) {
            x.ask(0, 10 * q);
            Due.is("route(" + q + ", 0)", x.route(q, 0), q);
        }
        return x;
    }

    private static void oneBehindTheOther() {
        ScarredLog x = eight();
        Due.is("look(0, 5): none", x.look(0, 5), 0);
        Due.votes(x, 0, 2, 0, 1);
        Due.votes(x, 0, 8, 0, 1);
        Due.is("look(0, 5): slot 1 is missing", x.look(0, 5), 0);
        Due.is("value(0, 0)", x.value(0, 0), 0);
        Due.is("route(2, 0): not done", x.route(2, 0), 2);
        Due.votes(x, 0, 1, 0, 1);
        Due.is("look(0, 5)", x.look(0, 5), 2);
        Due.is("value(0, 0)", x.value(0, 0), 20);
        for (int s = 3; s <= 7; s++) {
            Due.is("value(0, 0)", x.value(0, 0), 10 * (s - 1));
            Due.votes(x, 0, s, 0, 1);
        }
        Due.is("look(0, 5): all", x.look(0, 5), 8);
        Due.is("value(0, 0)", x.value(0, 0), 80);
    }

    private static void inThisOrder() {
        ScarredLog x = eight();
        for (int s = 8; s >= 1; s--) {
            Due.is("value(0, 0)", x.value(0, 0), 0);
            Due.votes(x, 0, s, 0, 1);
        }
        Due.is("value(0, 0): that of the last slot", x.value(0, 0), 80);
        for (int q = 1; q <= 8; q++) {
            Due.is("route(" + q + ", 0)", x.route(q, 0), 100);
            Due.is("reply(" + q + ", false)", x.reply(q, false), 10 * (q - 1));
        }
    }

    private static void fromZero() {
        ScarredLog x = Due.led(3, 0, 0, 1);
        for (int key = 0; key < 4; key++) {
            Due.is("value(0, key)", x.value(0, key), 0);
            x.ask(key, key + 5);
            x.route(key + 1, 0);
            Due.votes(x, 0, key + 1, 0, 1);
            Due.is("route", x.route(key + 1, 0), 100);
            Due.is("reply", x.reply(key + 1, false), 0);
        }
        // A map that is lost begins from 0 again.
        Due.is("tell(0, 1)", x.tell(0, 1), 4);
        Due.scar(x, 0);
        Due.is("value(0, 3)", x.value(0, 3), 0);
        Due.is("tell(1, 0)", x.tell(1, 0), 4);
        Due.is("route(4, 0)", x.route(4, 0), 100);
        Due.is("reply(4, false)", x.reply(4, false), 0);
        Due.is("value(0, 3)", x.value(0, 3), 8);
    }

    private static void answer() {
        ScarredLog x = Due.led(3, 0, 0, 1);
        int[][] asked = {{1, Integer.MIN_VALUE, 0}, {2, 7, 0}, {1, Integer.MAX_VALUE, Integer.MIN_VALUE},
            {1, 0, Integer.MAX_VALUE}, {1, 3, 0}, {2, 8, 7}};
        for (int q = 1; q <= asked.length; q++) {
            x.ask(asked[q - 1][0], asked[q - 1][1]);
            x.route(q, 0);
            Due.votes(x, 0, q, 0, 1);
        }
        for (int q = 1; q <= asked.length; q++) {
            Due.is("route(" + q + ", 0)", x.route(q, 0), 100);
            Due.is("reply(" + q + ", false)", x.reply(q, false), asked[q - 1][2]);
        }
    }

    private static void putsItsOwn() {
        ScarredLog x = Due.led(3, 0, 0, 1);
        int[] numbers = {5, 0, -1, 256, Integer.MAX_VALUE, Integer.MIN_VALUE};
        for (int q = 1; q <= numbers.length; q++) {
            x.ask(3, numbers[q - 1]);
            x.route(q, 0);
            Due.votes(x, 0, q, 0, 1);
            Due.is("value(0, 3)", x.value(0, 3), numbers[q - 1]);
            Due.is("value(0, 2): no other key", x.value(0, 2), 0);
        }
    }

    private static void nothing() {
        ScarredLog x = Due.led(3, 0, 0, 1);
        x.ask(0, 5);
        Due.votes(x, 0, 1, 0, 1);
        Due.is("look(0, 5): the slot is done", x.look(0, 5), 1);
        Due.is("value(0, 0)", x.value(0, 0), 0);
        Due.is("route(1, 0)", x.route(1, 0), 2);
        Due.votes(x, 0, 2, 0, 1);
        Due.votes(x, 0, 3, 0, 1);
        Due.is("look(0, 5)", x.look(0, 5), 3);
        Due.is("value(0, 0): as before", x.value(0, 0), 5);
        Due.is("route(1, 0)", x.route(1, 0), 100);
        Due.is("reply(1, false)", x.reply(1, false), 0);
    }

    /** Request 1 is chosen for slots 1 and 3, request 2 between them. */
    private static void doneBefore() {
        ScarredLog x = Due.led(3, 0, 0, 1);
        x.ask(0, 5);
        x.ask(0, 6);
        x.route(1, 0);
        Due.votes(x, 0, 1, 0);
        Due.begin(x, 2, 1, 2);
        Due.votes(x, 2, 1, 2);
        Due.is("route(2, 2)", x.route(2, 2), 2);
        Due.is("route(1, 2)", x.route(1, 2), 3);
        Due.votes(x, 2, 2, 1, 2);
        Due.votes(x, 2, 3, 1, 2);
        // Node 2 fixed NOTHING for slot 1; without its vote the one of node 0 for request 1 is the greatest.
        Due.begin(x, 0, 0, 1);
        Due.is("plan(0, 1)", x.plan(0, 1), 1);
        for (int s = 1; s <= 3; s++) {
            Due.votes(x, 0, s, 0, 1);
        }
        Due.is("chosen(0, 1)", x.chosen(0, 1), 1);
        Due.is("chosen(0, 2)", x.chosen(0, 2), 2);
        Due.is("chosen(0, 3)", x.chosen(0, 3), 1);
        Due.is("look(0, 5)", x.look(0, 5), 3);
        Due.is("value(0, 0): not put twice", x.value(0, 0), 6);
        Due.is("route(1, 0)", x.route(1, 0), 100);
        Due.is("reply(1, false): the first answer", x.reply(1, false), 0);
        // In node 2's map it is done at slot 3 alone, as soon as slot 1 is chosen there.
        Due.is("chosen(2, 1)", x.chosen(2, 1), -1);
        Due.is("tell(0, 2)", x.tell(0, 2), 1);
        Due.is("value(2, 0)", x.value(2, 0), 6);
    }
}
