/** Promise 17, a test for each sentence that names a boundary. */
public final class Edges17ChosenTest {
    public static void main(String[] args) {
        Due.sentence("The command chosen for slot s at node n", Edges17ChosenTest::command);
        Due.sentence("-1 if none is", Edges17ChosenTest::none);
        Due.sentence("-1 if .. there is no such node", Edges17ChosenTest::noSuchNode);
        Due.sentence("-1 if .. there is no such .. slot", Edges17ChosenTest::noSuchSlot);
        Due.sentence("-1 if .. it is down", Edges17ChosenTest::down);
        Due.end();
    }

    /** Request 30 is chosen for slot 1 at node 0, and NOTHING for slot 8. */
    private static ScarredLog chosen() {
        ScarredLog x = Due.led(3, 0, 0, 1);
        for (int q = 1; q <= 30; q++) {
            x.ask(0, q);
        }
        Due.is("route(30, 0)", x.route(30, 0), 1);
        Due.votes(x, 0, 1, 0, 1);
        Due.votes(x, 0, 8, 0, 1);
        return x;
    }

    private static void command() {
        ScarredLog x = chosen();
        Due.is("chosen(0, 1)", x.chosen(0, 1), 30);
        Due.is("chosen(0, 8): NOTHING", x.chosen(0, 8), 0);
        x.lead(0);
        Due.is("chosen(0, 1): over a new term", x.chosen(0, 1), 30);
        Due.is("tell(0, 2)", x.tell(0, 2), 2);
        Due.is("chosen(2, 1): told", x.chosen(2, 1), 30);
    }

    private static void none() {
        ScarredLog x = chosen();
        for (int s = 2; s <= 7; s++) {
            Due.is("chosen(0, " + s + ")", x.chosen(0, s), -1);
        }
        Due.is("chosen(1, 1): voted, but not told", x.chosen(1, 1), -1);
        Due.votes(x, 0, 2, 0);
        Due.is("chosen(0, 2): one vote of three", x.chosen(0, 2), -1);
    }

    private static void noSuchNode() {
        for (int size : new int[] {3, 5}) {
            ScarredLog x = Due.led(size, 0, 0, 1, 2);
            Due.votes(x, 0, 1, 0, 1, 2);
            for (int n : Due.noNodes(size)) {
                Due.is("chosen(" + n + ", 1)", x.chosen(n, 1), -1);
            }
        }
    }

    private static void noSuchSlot() {
        ScarredLog x = chosen();
        for (int s : Due.noSlots()) {
            Due.is("chosen(0, " + s + ")", x.chosen(0, s), -1);
        }
    }

    private static void down() {
        ScarredLog x = chosen();
        x.crash(0);
        Due.is("chosen(0, 1)", x.chosen(0, 1), -1);
        Due.is("chosen(0, 8)", x.chosen(0, 8), -1);
        x.restart(0);
        Due.is("chosen(0, 1): it forgot", x.chosen(0, 1), -1);
    }
}
