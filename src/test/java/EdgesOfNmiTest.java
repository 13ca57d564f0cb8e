/** The boundary cases that the document names for when an NMI is requested, a test for each sentence. */
public final class EdgesOfNmiTest {
    public static void main(String[] args) {
        Sentences sentences = new Sentences();
        sentences.holds("At cycle 8", EdgesOfNmiTest::requestsAtCycleEight);
        sentences.holds("At cycle 8: in the lines 1 .. 12", EdgesOfNmiTest::requestsInItsLinesOnly);
        sentences.holds("At cycle 8: [..] if CONTROL has bit 0", EdgesOfNmiTest::requestsWithBitZeroOnly);
        sentences.holds("a marked mode line is in its last row", EdgesOfNmiTest::requestsInTheLastRowOnly);
        sentences.holds("MASK has bit 7", EdgesOfNmiTest::requestsWithItsBitOfMask);
        sentences.holds("CAUSES gets bit 7", EdgesOfNmiTest::causesGather);
        sentences.holds("in line 13, whatever CONTROL is", EdgesOfNmiTest::requestsInLine13);
        sentences.holds("if MASK has bit 6: likewise with bit 6", EdgesOfNmiTest::requestsWithBitSixOfMask);
        sentences.holds("CAUSES gets bit 7 and an NMI is requested: though it has the bit already",
            EdgesOfNmiTest::requestsAgain);
        sentences.holds("and an NMI is requested: whatever MASK and CAUSES are later",
            EdgesOfNmiTest::staysRequested);
        sentences.end();
    }

    private static void causes(Check check, String what, PictureMachine machine, int due) {
        check.due("CAUSES " + what, machine.state(Machines.CAUSES), due);
    }

    private static void requestsAtCycleEight(Check check) {
        // Held, so that the NMI does not begin.
        PictureMachine machine = Lines.withList(0x40, 0x80);
        machine.write(6, 128);
        machine.write(5, 0);
        machine.run(8);
        causes(check, "before cycle 8", machine, 0);
        check.due("requested before cycle 8", machine.processor(Machines.REQUESTED), 0);
        machine.run(1);
        causes(check, "after cycle 8", machine, 128);
        check.due("requested after cycle 8", machine.processor(Machines.REQUESTED), 1);
        // MASK is written too late for this line.
        machine = Lines.withList(0x40, 0x80, 0x00);
        machine.run(9);
        machine.write(6, 128);
        machine.run(100);
        causes(check, "with MASK behind cycle 8", machine, 0);
    }

    private static void requestsInItsLinesOnly(Check check) {
        PictureMachine machine = Lines.withList(0x40,
            128, 128, 128, 128, 128, 128, 128, 128, 128, 128, 128, 128, 128);
        machine.write(6, 128);
        for (int line = 1; line <= 18; line++) {
            machine.run(24);
            causes(check, "behind line " + line % 16, machine, line <= 12 || line >= 17 ? 128 : 0);
            machine.write(7, 0);
        }
        // A marked mode line whose last row does not come before line 13.
        machine = Lines.withList(0x40, 0x70, 0xC0);
        machine.write(6, 128);
        Machines.runTo(machine, 0, 0);
        causes(check, "with its last row to come in line 13", machine, 0);
        machine = Lines.withList(0x40, 0x70, 0xB0);
        machine.write(6, 128);
        Machines.runTo(machine, 12, 8);
        causes(check, "before line 12", machine, 0);
        machine.run(1);
        causes(check, "with its last row in line 12", machine, 128);
    }

    private static void requestsWithBitZeroOnly(Check check) {
        for (int control : new int[] {0, 2, 252}) {
            PictureMachine machine = Lines.withList(0x40, 0x80, 0x00);
            machine.write(6, 128);
            machine.run(8);
            machine.write(0, control);
            machine.run(1);
            causes(check, "with CONTROL " + control, machine, 0);
            check.due("requested", machine.processor(Machines.REQUESTED), 0);
        }
    }

    private static void requestsInTheLastRowOnly(Check check) {
        int[] modes = {0x80, 0x90, 0xF0, 0x81, 0x82, 0x83, 0x84, 0x85, 0x8F};
        int[] rows = {1, 2, 8, 1, 4, 1, 2, 1, 1};
        for (int i = 0; i < modes.length; i++) {
            PictureMachine machine = Lines.withList(0x40, modes[i], 0x00, 0x00);
            machine.write(6, 128);
            Machines.runTo(machine, rows[i], 8);
            causes(check, "before the last row of " + modes[i], machine, 0);
            machine.run(1);
            causes(check, "in the last row of " + modes[i], machine, 128);
            PictureMachine unmarked = Lines.withList(0x40, modes[i] & 127, 0x00, 0x00);
            unmarked.write(6, 128);
            Machines.runTo(unmarked, 13, 0);
            causes(check, "of " + (modes[i] & 127), unmarked, 0);
        }
        // A marked mode line that is done is in no row, while it rests.
        PictureMachine machine = Lines.withList(0x40, 0xC1, 0x40, 0x00);
        machine.write(6, 128);
        machine.run(24);
        machine.write(7, 0);
        Machines.runTo(machine, 13, 0);
        causes(check, "while it rests", machine, 0);
    }

    private static void requestsWithItsBitOfMask(Check check) {
        for (int mask : new int[] {0, 64, 127, 128, 255}) {
            PictureMachine machine = Lines.withList(0x40, 0x80, 0x70, 0x70);
            machine.write(6, mask);
            machine.write(5, 0);
            machine.run(9);
            causes(check, "with MASK " + mask, machine, mask & 128);
            check.due("requested with MASK " + mask, machine.processor(Machines.REQUESTED), mask >> 7);
        }
    }

    private static void causesGather(Check check) {
        PictureMachine machine = Lines.withList(0x40, 0x80, 0x70, 0x70);
        machine.write(6, 192);
        machine.run(9);
        causes(check, "in line 1", machine, 128);
        Machines.runTo(machine, 13, 9);
        causes(check, "in line 13", machine, 192);
        machine.write(7, 0);
        Machines.runTo(machine, 1, 9);
        causes(check, "in line 1, behind CLEAR", machine, 128);
    }

    private static void requestsInLine13(Check check) {
        for (int control = 0; control < 4; control++) {
            PictureMachine machine = Machines.idle();
            machine.write(0, control);
            machine.write(6, 64);
            Machines.runTo(machine, 13, 8);
            causes(check, "before it, CONTROL " + control, machine, 0);
            check.due("requested before it", machine.processor(Machines.REQUESTED), 0);
            machine.run(1);
            causes(check, "in line 13, CONTROL " + control, machine, 64);
            machine.write(7, 0);
            Machines.runTo(machine, 13, 8);
            causes(check, "in all other lines", machine, 0);
        }
    }

    private static void requestsWithBitSixOfMask(Check check) {
        for (int mask : new int[] {0, 63, 64, 128, 191, 255}) {
            PictureMachine machine = new PictureMachine();
            machine.write(6, mask);
            machine.run(384);
            causes(check, "with MASK " + mask, machine, mask & 64);
            check.due("requested with MASK " + mask, machine.processor(Machines.REQUESTED), mask >> 6 & 1);
        }
    }

    private static void requestsAgain(Check check) {
        // The NMI returns at once, without CLEAR.
        PictureMachine machine = Lines.withList(0x40, 0x80, 0x70, 0x70);
        Machines.pokeAll(machine, 760, 0x80, 0x00);
        machine.poke(0x80, 0x40);
        machine.write(6, 192);
        for (int line : new int[] {1, 13, 1, 13}) {
            Machines.runTo(machine, line, 8);
            check.due("requested before line " + line, machine.processor(Machines.REQUESTED), 0);
            machine.run(1);
            check.due("requested in line " + line, machine.processor(Machines.REQUESTED), 1);
        }
        causes(check, "at the end", machine, 192);
    }

    private static void staysRequested(Check check) {
        // Held, so that the NMI does not begin before cycle 22.
        PictureMachine machine = Machines.idle();
        Machines.pokeAll(machine, 760, 0x80, 0x00);
        machine.write(6, 64);
        Machines.runTo(machine, 13, 0);
        machine.write(5, 0);
        machine.run(9);
        machine.write(6, 0);
        machine.write(7, 0);
        check.due("requested", machine.processor(Machines.REQUESTED), 1);
        causes(check, "behind CLEAR", machine, 0);
        Machines.runTo(machine, 14, 20);
        check.due("higher byte of the place pushed", machine.peek(511), 2);
        check.due("requested behind it", machine.processor(Machines.REQUESTED), 0);
    }
}
