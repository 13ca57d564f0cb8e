/** Promise 11: state. How each of these comes about is in ListTest, PlayersTest, NmiTest, ChanceTest and DriveTest. */
public final class StateTest {
    private static final int[] OTHERS = {-1, 21, 22, 32, Integer.MIN_VALUE, Integer.MAX_VALUE};

    private final Check check = new Check();

    public static void main(String[] args) {
        StateTest test = new StateTest();
        test.answersEach();
        test.answersNoneForOthers();
        test.readsWithoutTaking();
        test.isWhatTheProcessorReads();
        test.check.end();
    }

    /** A machine in which no two of the greater numbers are the same. */
    private static PictureMachine busy() {
        PictureMachine machine = PlayersTest.overRow(3, 0b0110_0000, 0b1000_0000);
        Machines.pokeAll(machine, 0x43, 0xC2, 0x80, 0x01);
        machine.write(14, 0);
        machine.write(15, 2);
        machine.write(6, 128);
        machine.write(21, 250);
        Machines.sendWithSum(machine, 49, 82, 1);
        Machines.sendWithSum(machine, 49, 87, 2);
        Machines.send(machine, 5, 6, 7);
        machine.run(24);
        machine.write(22, 0);
        machine.run(24 * 4);
        return machine;
    }

    private void answersEach() {
        PictureMachine machine = busy();
        int chance = chanceAfter(120);
        int[] due = {
            0, 5, 0, 0x46, 0x188, 0, 2, 3, 0b0110_0000, 0b1000_0000, 0, 0b0110, 0b0100, 1, chance,
            250 - 96, 0, 1, 11, 3, 1,
        };
        for (int what = 0; what < due.length; what++) {
            check.due("state(" + what + ")", machine.state(what), due[what]);
        }
        machine = busy();
        machine.run(384 - 24);
        check.due("state(0)", machine.state(0), 1);
        check.due("state(1)", machine.state(1), 4);
        check.due("state(6)", machine.state(6), 2);
        check.due("state(7)", machine.state(7), 2);
        check.due("state(10)", machine.state(10), 128);
        machine.run(7);
        check.due("state(2)", machine.state(2), 7);
    }

    private static int chanceAfter(int cycles) {
        int row = 511;
        for (int i = 0; i < cycles; i++) {
            int highest = (row & 1) ^ (row >> 4 & 1);
            row = row >> 1 | highest << 8;
        }
        return row;
    }

    private void answersNoneForOthers() {
        PictureMachine machine = new PictureMachine();
        for (int what : OTHERS) {
            check.due("state(" + what + ")", machine.state(what), PictureMachine.NONE);
        }
    }

    private void readsWithoutTaking() {
        PictureMachine machine = busy();
        String before = Machines.seen(machine);
        for (int what = -2; what < 24; what++) {
            machine.state(what);
        }
        check.due("what is seen after asking", Machines.seen(machine), before);
    }

    /** The registers as the processor reads them, by LDA M and a jump to itself. */
    private void isWhatTheProcessorReads() {
        int[] dueStates = {Machines.CAUSES, Machines.COLLISIONS_0, Machines.COLLISIONS_1, Machines.MET};
        for (int k = 1; k <= 4; k++) {
            PictureMachine machine = busy();
            readRegister(machine, k);
            check.due("register " + k, machine.processor(Machines.A), machine.state(dueStates[k - 1]));
        }
        PictureMachine machine = busy();
        readRegister(machine, 0);
        check.due("register 0", machine.processor(Machines.A), machine.state(Machines.LINE));
        for (int k = 10; k < 32; k++) {
            machine = busy();
            readRegister(machine, k);
            check.due("register " + k, machine.processor(Machines.A), 255);
        }
    }

    private static void readRegister(PictureMachine machine, int k) {
        Machines.pokeAll(machine, 0x280, 0xAD, k, 0x03, 0x4C, 0x80, 0x02);
        Machines.pokeAll(machine, 514, 0x80, 0x02);
        Machines.pokeAll(machine, 760, 0x80, 0x02);
        Machines.runTo(machine, 14, 20);
    }
}
