/** Promise 9: dot. How dots come about is in PlayersTest and ListTest. */
public final class DotTest {
    public static void main(String[] args) {
        Check check = new Check();
        refusesWrongInputs(check);
        isAsDrawnLast(check);
        eachLineIsItsOwn(check);
        takesTheRegistersAtTheLinesEnd(check);
        check.end();
    }

    private static void refusesWrongInputs(Check check) {
        PictureMachine machine = Machines.idle();
        int[][] none = {
            {0, 0}, {13, 0}, {-1, 0}, {1, -1}, {1, 32}, {12, 32}, {0, 32},
            {Integer.MIN_VALUE, 0}, {Integer.MAX_VALUE, 0}, {1, Integer.MIN_VALUE},
        };
        for (int[] place : none) {
            check.refuses("dot(" + place[0] + ", " + place[1] + ")", machine,
                () -> machine.dot(place[0], place[1]), "IndexOutOfBoundsException");
        }
        PictureMachine other = Machines.idle();
        check.refuses("dot(12, most)", other, () -> other.dot(12, Integer.MAX_VALUE), "IndexOutOfBoundsException");
    }

    private static void isAsDrawnLast(Check check) {
        PictureMachine machine = Machines.idle();
        machine.write(8, 33);
        Machines.runTo(machine, 1, 23);
        check.due("dot(1, 0) before the line's end", machine.dot(1, 0), 0);
        machine.run(1);
        check.due("dot(1, 0)", machine.dot(1, 0), 33);
        check.due("dot(2, 0) before it is drawn", machine.dot(2, 0), 0);
        machine.run(360);
        machine.write(8, 44);
        check.due("dot(1, 0) in the next frame, before it is drawn", machine.dot(1, 0), 33);
        Machines.runTo(machine, 2, 0);
        check.due("dot(1, 0) drawn again", machine.dot(1, 0), 44);
        check.due("dot(12, 31)", machine.dot(12, 31), 33);
    }

    private static void eachLineIsItsOwn(Check check) {
        PictureMachine machine = Machines.idle();
        for (int line = 0; line < 16; line++) {
            machine.write(8, 10 + line);
            machine.run(24);
        }
        for (int y = 1; y <= 12; y++) {
            check.due("dot(" + y + ", 0)", machine.dot(y, 0), 10 + y);
            check.due("dot(" + y + ", 31)", machine.dot(y, 31), 10 + y);
        }
    }

    private static void takesTheRegistersAtTheLinesEnd(Check check) {
        // The processor has 44 cycles in the lines 0 and 1: behind 19 NOP, LDA and STA end with the last of them,
        // which is before the line is drawn; behind 20 they do not.
        check.due("dot(1, 0), the colour written in cycle 23", dotAfterNops(19), 7);
        check.due("dot(1, 0), the colour written later", dotAfterNops(20), 0);
    }

    private static int dotAfterNops(int nops) {
        PictureMachine machine = new PictureMachine();
        for (int i = 0; i < nops; i++) {
            machine.poke(512 + i, 0xEA);
        }
        Machines.pokeAll(machine, 512 + nops, 0xA9, 7, 0x8D, 0x08, 0x03);
        machine.run(48);
        return machine.dot(1, 0);
    }
}
