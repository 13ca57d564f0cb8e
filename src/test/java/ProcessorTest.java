/** Promise 10: processor. What the instructions do is in InstructionsTest, NMIs are in NmiTest. */
public final class ProcessorTest {
    private static final int[] OTHERS = {-1, 10, 11, 20, Integer.MIN_VALUE, Integer.MAX_VALUE};

    private final Check check = new Check();

    public static void main(String[] args) {
        ProcessorTest test = new ProcessorTest();
        test.answersEach();
        test.answersNoneForOthers();
        test.tellsWhetherItIsJammed();
        test.tellsWhetherItIsHeld();
        test.tellsWhatIsLeft();
        test.changesNothing();
        test.check.end();
    }

    private void answersEach() {
        PictureMachine machine = Machines.withProgram(0xA9, 11, 0x48, 0xA2, 22, 0xA0, 133, 0x38, 0xEA);
        machine.run(11);
        int[] due = {520, 11, 22, 133, 254, 129, 0, 0, 0, 0};
        for (int what = 0; what < due.length; what++) {
            check.due("processor(" + what + ")", machine.processor(what), due[what]);
        }
    }

    private void answersNoneForOthers() {
        PictureMachine machine = new PictureMachine();
        for (int what : OTHERS) {
            check.due("processor(" + what + ")", machine.processor(what), PictureMachine.NONE);
        }
    }

    private void tellsWhetherItIsJammed() {
        PictureMachine machine = Machines.withProgram(0xEA, 0x02);
        machine.run(3);
        check.due("jammed before its second cycle", machine.processor(6), 0);
        check.due("left", machine.processor(9), 1);
        machine.run(1);
        check.due("jammed", machine.processor(6), 1);
        check.due("PC stays", machine.processor(0), 513);
        machine.poke(513, 0xEA);
        check.due("own when jammed for good", machine.run(1000), 0);
        check.due("jammed for good", machine.processor(6), 1);
    }

    private void tellsWhetherItIsHeld() {
        PictureMachine machine = Machines.withProgram(0x8D, 0x05, 0x03, 0xE8, 0x4C, 0x00, 0x02);
        machine.run(3);
        check.due("held before STA is done", machine.processor(7), 0);
        machine.run(1);
        check.due("held", machine.processor(7), 1);
        check.due("left", machine.processor(9), 0);
        check.due("own cycles while held", machine.run(18), 0);
        check.due("held before cycle 22", machine.processor(7), 1);
        check.due("own cycles in 22 and 23", machine.run(2), 2);
        check.due("held after", machine.processor(7), 0);
        check.due("X", machine.processor(2), 1);
        PictureMachine jammed = new PictureMachine();
        jammed.run(2);
        jammed.write(5, 0);
        check.due("held when jammed", jammed.processor(7), 1);
        jammed.run(24);
        check.due("held no more", jammed.processor(7), 0);
    }

    /** Cycles that are taken do not count as an instruction's own. */
    private void tellsWhatIsLeft() {
        PictureMachine machine = Machines.withProgram(0xEA, 0xEA, 0xEA, 0xEA, 0xEA, 0xEA, 0xEA, 0xEA, 0xEA, 0xE6, 0x40);
        int[] due = {4, 3, 3, 3, 2, 1, 0};
        machine.run(18);
        for (int i = 0; i < due.length; i++) {
            machine.run(1);
            check.due("left after cycle " + (18 + i), machine.processor(9), due[i]);
        }
        check.due("the byte", machine.peek(0x40), 1);
    }

    private void changesNothing() {
        PictureMachine machine = Machines.idle();
        machine.run(101);
        String before = Machines.seen(machine);
        for (int what = -2; what < 12; what++) {
            machine.processor(what);
        }
        check.due("what is seen after asking", Machines.seen(machine), before);
    }
}
