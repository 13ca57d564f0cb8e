/** The shift register for chance and the timer (in the terms before promise 1). */
public final class ChanceTest {
    private final Check check = new Check();

    public static void main(String[] args) {
        ChanceTest test = new ChanceTest();
        test.shifts();
        test.isReadInItsLowestBits();
        test.countsDown();
        test.givesItsSignOnce();
        test.stepsAfterTheProcessor();
        test.stepsWhenTheProcessorDoesNot();
        test.check.end();
    }

    private void shifts() {
        PictureMachine machine = Machines.idle();
        // 511 has bits 0 and 4: a 0 comes in, five times, until bit 4 is 0 at last.
        int[] due = {255, 127, 63, 31, 15, 263, 387, 449};
        for (int i = 0; i < due.length; i++) {
            machine.run(1);
            check.due("CHANCE after " + (i + 1), machine.state(Machines.CHANCE), due[i]);
        }
        machine.run(511 - due.length);
        check.due("CHANCE after 511", machine.state(Machines.CHANCE), 511);
    }

    private void isReadInItsLowestBits() {
        PictureMachine machine = Machines.withProgram(0xEA, 0xEA, 0xAD, 0x05, 0x03);
        machine.run(7);
        check.due("CHANCE after 7", machine.state(Machines.CHANCE), 387);
        machine.run(1);
        check.due("A, read in cycle 7", machine.processor(Machines.A), 387 - 256);
    }

    private void countsDown() {
        PictureMachine machine = Machines.idle();
        machine.run(1);
        check.due("the timer with PERIOD 0", machine.state(Machines.TIMER), 0);
        check.due("its sign", machine.state(Machines.SIGN), 1);
        machine.write(21, 3);
        machine.write(22, 0);
        int[] timer = {2, 1, 0, 3, 2, 1, 0, 3};
        for (int i = 0; i < timer.length; i++) {
            machine.run(1);
            check.due("the timer after " + (i + 1), machine.state(Machines.TIMER), timer[i]);
            check.due("its sign after " + (i + 1), machine.state(Machines.SIGN), i < 3 ? 0 : 1);
        }
        machine.write(21, 255);
        machine.run(3);
        check.due("the timer goes on with the old PERIOD", machine.state(Machines.TIMER), 0);
        machine.run(1);
        check.due("and then with the new one", machine.state(Machines.TIMER), 255);
    }

    private void givesItsSignOnce() {
        PictureMachine machine = Machines.withProgram(0xAD, 0x06, 0x03, 0xA6, 0x40, 0xAD, 0x06, 0x03);
        machine.write(21, 200);
        machine.run(4);
        check.due("the sign as read", machine.processor(Machines.A), 1);
        check.due("the sign after it", machine.state(Machines.SIGN), 0);
        machine.run(7);
        check.due("the sign as read again", machine.processor(Machines.A), 0);
    }

    private void stepsAfterTheProcessor() {
        PictureMachine machine = Machines.withProgram(0xA9, 9, 0x8D, 0x15, 0x03, 0x8D, 0x16, 0x03);
        machine.run(6);
        check.due("PERIOD, written and taken in one cycle", machine.state(Machines.TIMER), 9);
        machine.run(4);
        check.due("START, and one less in the same cycle", machine.state(Machines.TIMER), 8);
        check.due("the sign", machine.state(Machines.SIGN), 0);
        machine = Machines.withProgram(0xA2, 0, 0xAD, 0x06, 0x03);
        machine.run(6);
        check.due("the sign, read and set again in one cycle", machine.state(Machines.SIGN), 1);
    }

    private void stepsWhenTheProcessorDoesNot() {
        PictureMachine jammed = new PictureMachine();
        PictureMachine idle = Machines.idle();
        jammed.run(100);
        idle.run(100);
        check.due("CHANCE when jammed", jammed.state(Machines.CHANCE), idle.state(Machines.CHANCE));
    }
}
