public final class Promise11ArmTest {
    public static void main(String[] args) {
        ScarredLog x = new ScarredLog(3);
        Due.no("arm(-1, 0)", x.arm(-1, 0));
        Due.no("arm(3, 0)", x.arm(3, 0));
        Due.no("arm(0, -1)", x.arm(0, -1));
        Due.no("arm(0, 41)", x.arm(0, 41));
        Due.is("look(0, 6)", x.look(0, 6), -1);
        Due.yes("arm(0, 40)", x.arm(0, 40));
        Due.is("look(0, 6)", x.look(0, 6), 40);
        Due.no("arm(0, 41)", x.arm(0, 41));
        Due.is("look(0, 6)", x.look(0, 6), 40);
        Due.yes("arm(0, 3)", x.arm(0, 3));
        Due.is("lead(0)", x.lead(0), 8);
        Due.is("look(0, 6)", x.look(0, 6), 1);
        Due.is("lead(0)", x.lead(0), -4);
        Due.is("look(0, 6)", x.look(0, 6), -1);
        Due.no("arm(0, 1): down", x.arm(0, 1));
        x.restart(0);
        Due.is("look(0, 6)", x.look(0, 6), -1);
        Due.yes("arm(0, 0)", x.arm(0, 0));
        Due.is("look(0, 6)", x.look(0, 6), 0);
        Due.yes("arm(0, 2), in place of 0", x.arm(0, 2));
        Due.is("lead(0)", x.lead(0), 24);
        Due.is("look(0, 6)", x.look(0, 6), 0);
        Due.is("look(0, 0)", x.look(0, 0), 1);
        Due.yes("crash(0)", x.crash(0));
        Due.is("look(0, 6)", x.look(0, 6), -1);
        x.wipe(0, 0);
        x.wipe(0, 1);
        x.restart(0);
        Due.yes("arm(0, 7): mute, but up", x.arm(0, 7));
        Due.is("look(0, 6)", x.look(0, 6), 7);
        Due.end();
    }
}
