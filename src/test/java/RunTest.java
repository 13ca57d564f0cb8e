/** Promise 8: run, and the time that it lets go by. */
public final class RunTest {
    public static void main(String[] args) {
        Check check = new Check();
        countsOwnCycles(check);
        keepsTime(check);
        isTheSameInParts(check);
        refusesWrongInputs(check);
        doesNotCountWhenJammedOrHeld(check);
        countsThoseOfAnNmi(check);
        check.end();
    }

    private static void countsOwnCycles(Check check) {
        PictureMachine machine = Machines.idle();
        check.due("run(0)", machine.run(0), 0);
        check.due("run(20), before the cycles that are taken", machine.run(20), 20);
        check.due("run(1), cycle 20", machine.run(1), 0);
        check.due("run(1), cycle 21", machine.run(1), 0);
        check.due("run(2), cycles 22 and 23", machine.run(2), 2);
        check.due("run(384), a frame", machine.run(384), 16 * 22);
        check.due("run(1000), 41 lines and 16 cycles", machine.run(1000), 41 * 22 + 16);
    }

    private static void keepsTime(Check check) {
        PictureMachine machine = Machines.idle();
        machine.run(23);
        time(check, machine, 0, 0, 23);
        machine.run(1);
        time(check, machine, 0, 1, 0);
        machine.run(359);
        time(check, machine, 0, 15, 23);
        machine.run(0);
        time(check, machine, 0, 15, 23);
        machine.run(1);
        time(check, machine, 1, 0, 0);
        machine.run(1000);
        time(check, machine, 3, 9, 16);
        for (int i = 0; i < 400; i++) {
            machine.run(1000);
        }
        time(check, machine, (384 + 401_000) / 384, 401_384 % 384 / 24, 401_384 % 24);
    }

    private static void time(Check check, PictureMachine machine, int frame, int line, int cycle) {
        check.due("the frame", machine.state(Machines.FRAME), frame);
        check.due("the line", machine.state(Machines.LINE), line);
        check.due("the cycle", machine.state(Machines.CYCLE), cycle);
    }

    private static void isTheSameInParts(Check check) {
        PictureMachine whole = Machines.idle();
        PictureMachine parts = Machines.idle();
        whole.write(0, 3);
        parts.write(0, 3);
        int own = 0;
        for (int i = 0; i < 400; i++) {
            own += parts.run(1);
        }
        check.due("run(400) and 400 times run(1)", own, whole.run(400));
        check.due("what is seen then", Machines.seen(parts), Machines.seen(whole));
    }

    private static void refusesWrongInputs(Check check) {
        PictureMachine machine = Machines.idle();
        for (int cycles : new int[] {-1, 1001, Integer.MIN_VALUE, Integer.MAX_VALUE}) {
            check.refuses("run(" + cycles + ")", machine, () -> machine.run(cycles));
        }
    }

    private static void doesNotCountWhenJammedOrHeld(Check check) {
        check.due("run(1000) with code 0", new PictureMachine().run(1000), 2);
        PictureMachine held = Machines.idle();
        held.write(5, 0);
        check.due("run(24) when held until cycle 22", held.run(24), 2);
    }

    private static void countsThoseOfAnNmi(Check check) {
        PictureMachine machine = Machines.idle();
        Machines.pokeAll(machine, 760, 0x00, 0x01);
        machine.poke(256, 0x02);
        machine.write(6, 64);
        Machines.runTo(machine, 13, 0);
        for (int i = 0; i < 3 && machine.processor(Machines.LEFT) != 0; i++) {
            machine.run(1);
        }
        machine.write(5, 0);
        Machines.runTo(machine, 13, 22);
        check.due("requested", machine.processor(Machines.REQUESTED), 1);
        check.due("run(100): 7 cycles of the NMI and 2 that jam", machine.run(100), 9);
        check.due("PC", machine.processor(Machines.PC), 256);
    }
}
