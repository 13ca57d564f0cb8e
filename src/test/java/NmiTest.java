/** NMIs: when they are requested, and how the processor enters them (in the terms before promise 1). */
public final class NmiTest {
    private final Check check = new Check();

    public static void main(String[] args) {
        NmiTest test = new NmiTest();
        test.isRequestedBelowThePicture();
        test.isRequestedInTheLastRowOfAMarkedLine();
        test.gathersCauses();
        test.isNotRequestedOtherwise();
        test.isEntered();
        test.waitsForTheInstruction();
        test.isRequestedNoMoreAtItsEnd();
        test.returnsByRti();
        test.jammedStaysJammed();
        test.check.end();
    }

    /** A machine with a list of these bytes, and CONTROL and MASK as said; at its NMI it stays in a loop. */
    private static PictureMachine machine(int control, int mask, int... list) {
        PictureMachine machine = Machines.idle();
        Machines.pokeAll(machine, 0x40, list);
        Machines.pokeAll(machine, 760, 0x80, 0x00);
        Machines.pokeAll(machine, 0x80, 0x4C, 0x80, 0x00);
        machine.write(0, control);
        machine.write(2, 0x40);
        machine.write(6, mask);
        return machine;
    }

    private void isRequestedBelowThePicture() {
        for (int control = 0; control < 2; control++) {
            PictureMachine machine = machine(control, 64, 0xF0, 0xF0);
            Machines.runTo(machine, 13, 8);
            check.due("requested before cycle 8", machine.processor(Machines.REQUESTED), 0);
            check.due("CAUSES before cycle 8", machine.state(Machines.CAUSES), 0);
            machine.run(1);
            check.due("requested", machine.processor(Machines.REQUESTED), 1);
            check.due("CAUSES", machine.state(Machines.CAUSES), 64);
        }
        PictureMachine machine = machine(1, 191, 0x70, 0x70);
        machine.run(384);
        check.due("CAUSES without bit 6 of MASK", machine.state(Machines.CAUSES), 0);
    }

    private void isRequestedInTheLastRowOfAMarkedLine() {
        // three blank rows, marked: the lines 1 .. 3
        PictureMachine machine = machine(1, 128, 0xA0, 0x70, 0x70);
        Machines.runTo(machine, 3, 8);
        check.due("CAUSES before", machine.state(Machines.CAUSES), 0);
        machine.run(1);
        check.due("CAUSES", machine.state(Machines.CAUSES), 128);
        check.due("requested", machine.processor(Machines.REQUESTED), 1);
        int[] modes = {0x81, 0x82, 0x83, 0x84, 0x85, 0x8F};
        int[] lines = {1, 4, 1, 2, 1, 1};
        for (int i = 0; i < modes.length; i++) {
            PictureMachine other = machine(1, 255, modes[i], 0x70, 0x70);
            Machines.runTo(other, lines[i], 8);
            check.due("CAUSES before, mode " + modes[i], other.state(Machines.CAUSES), 0);
            other.run(1);
            check.due("CAUSES, mode " + modes[i], other.state(Machines.CAUSES), 128);
        }
    }

    private void gathersCauses() {
        PictureMachine machine = machine(1, 192, 0x80, 0x70, 0x70);
        Machines.runTo(machine, 13, 9);
        check.due("both CAUSES", machine.state(Machines.CAUSES), 192);
    }

    private void isNotRequestedOtherwise() {
        causesAfterPicture("an unmarked line", 0, machine(1, 255, 0x20, 0x70, 0x70));
        causesAfterPicture("MASK without bit 7", 0, machine(1, 127, 0xA0, 0x70, 0x70));
        causesAfterPicture("CONTROL without bit 0", 0, machine(2, 255, 0xA0, 0x70, 0x70));
        causesAfterPicture("a marked line whose last row does not come", 0, machine(1, 255, 0x70, 0xF0));
        causesAfterPicture("a marked line whose last row is line 12", 128, machine(1, 255, 0x70, 0xB0));
        PictureMachine off = machine(1, 128, 0xA0, 0x70, 0x70);
        Machines.runTo(off, 3, 8);
        off.write(0, 0);
        off.run(1);
        check.due("CONTROL without bit 0 at cycle 8", off.state(Machines.CAUSES), 0);
        PictureMachine done = machine(1, 0, 0xC1, 0x40, 0x00);
        Machines.runTo(done, 2, 0);
        done.write(6, 128);
        causesAfterPicture("a marked line that is done, while it rests", 0, done);
    }

    private void causesAfterPicture(String what, int due, PictureMachine machine) {
        Machines.runTo(machine, 13, 0);
        check.due("CAUSES after " + what, machine.state(Machines.CAUSES), due);
        check.due("requested ever after " + what, machine.processor(Machines.S), due == 0 ? 255 : 252);
    }

    private void isEntered() {
        PictureMachine machine = Machines.withProgram(0x38, 0x4C, 0x01, 0x02);
        Machines.pokeAll(machine, 760, 0x34, 0x05);
        machine.write(6, 64);
        machine.run(13 * 24 + 9);
        for (int i = 0; i < 3 && machine.processor(Machines.LEFT) != 0; i++) {
            machine.run(1);
        }
        // An instruction that ended just before the request would leave 7 cycles, begun already.
        int left = machine.processor(Machines.LEFT);
        check.due("between", left, 0);
        machine.run(1);
        check.due("cycles left", machine.processor(Machines.LEFT), 6);
        check.due("PC as long as it goes on", machine.processor(Machines.PC), 513);
        machine.run(5);
        check.due("cycles left", machine.processor(Machines.LEFT), 1);
        check.due("S as long as it goes on", machine.processor(Machines.S), 255);
        check.due("requested as long as it goes on", machine.processor(Machines.REQUESTED), 1);
        machine.run(1);
        check.due("cycles left", machine.processor(Machines.LEFT), 0);
        check.due("PC", machine.processor(Machines.PC), 0x134);
        check.due("S", machine.processor(Machines.S), 252);
        check.due("requested", machine.processor(Machines.REQUESTED), 0);
        check.due("CAUSES stays", machine.state(Machines.CAUSES), 64);
        check.due("higher byte", machine.peek(511), 513 >> 8);
        check.due("lower byte", machine.peek(510), 513 & 255);
        check.due("flags", machine.peek(509), 1);
        check.due("flags stay", machine.processor(Machines.FLAGS), 1);
    }

    private void waitsForTheInstruction() {
        // Held in the midst of INC, which goes on at cycle 22 before the NMI begins.
        PictureMachine machine = Machines.withProgram(0xE6, 0x40, 0x4C, 0x00, 0x02);
        Machines.pokeAll(machine, 760, 0x00, 0x01);
        machine.write(6, 64);
        Machines.runTo(machine, 13, 0);
        for (int i = 0; i < 8 && machine.processor(Machines.LEFT) != 4; i++) {
            machine.run(1);
        }
        int before = machine.peek(0x40);
        machine.write(5, 0);
        Machines.runTo(machine, 13, 22);
        check.due("requested", machine.processor(Machines.REQUESTED), 1);
        check.due("cycles left", machine.processor(Machines.LEFT), 4);
        machine.run(4);
        check.due("the byte", machine.peek(0x40), before + 1);
        machine.run(7);
        check.due("PC", machine.processor(Machines.PC), 256);
        check.due("the place it came from", machine.peek(510), 514 & 255);
    }

    private void isRequestedNoMoreAtItsEnd() {
        // The marked lines 1 and 2: the second request comes while the first NMI goes on, and is gone with it.
        PictureMachine machine = machine(1, 128, 0x80, 0x80, 0x70, 0x70);
        Machines.runTo(machine, 1, 0);
        while (machine.processor(Machines.LEFT) != 0) {
            machine.run(1);
        }
        machine.write(5, 0);
        Machines.runTo(machine, 1, 22);
        machine.run(2);
        check.due("cycles left in line 1", machine.processor(Machines.LEFT), 5);
        machine.write(5, 0);
        Machines.runTo(machine, 2, 22);
        check.due("requested in line 2", machine.processor(Machines.REQUESTED), 1);
        Machines.runTo(machine, 4, 0);
        check.due("requested after it", machine.processor(Machines.REQUESTED), 0);
        check.due("one NMI was entered", machine.processor(Machines.S), 252);
    }

    private void returnsByRti() {
        PictureMachine machine = Machines.withProgram(0xA9, 0x00, 0x38, 0x4C, 0x03, 0x02);
        Machines.pokeAll(machine, 760, 0x00, 0x01);
        Machines.pokeAll(machine, 256, 0xA2, 0x80, 0x18, 0x40);
        machine.write(6, 64);
        machine.run(384);
        check.due("X", machine.processor(Machines.X), 128);
        check.due("S", machine.processor(Machines.S), 255);
        check.due("flags as they were", machine.processor(Machines.FLAGS), 3);
        check.due("PC", machine.processor(Machines.PC), 515);
    }

    private void jammedStaysJammed() {
        PictureMachine machine = new PictureMachine();
        machine.write(6, 64);
        check.due("own cycles of two frames", machine.run(768), 2);
        check.due("requested", machine.processor(Machines.REQUESTED), 1);
        check.due("jammed", machine.processor(Machines.JAMMED), 1);
        check.due("S", machine.processor(Machines.S), 255);
    }
}
