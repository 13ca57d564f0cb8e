/** Machines as the tests need them, and short names for what is read off them. */
final class Machines {
    static final int PROGRAM = 512;

    // processor(what)
    static final int PC = 0;
    static final int A = 1;
    static final int X = 2;
    static final int Y = 3;
    static final int S = 4;
    static final int FLAGS = 5;
    static final int JAMMED = 6;
    static final int HELD = 7;
    static final int REQUESTED = 8;
    static final int LEFT = 9;

    // state(what)
    static final int FRAME = 0;
    static final int LINE = 1;
    static final int CYCLE = 2;
    static final int L = 3;
    static final int D = 4;
    static final int RESTS = 5;
    static final int MODE = 6;
    static final int ROWS_DONE = 7;
    static final int SHAPE_0 = 8;
    static final int SHAPE_1 = 9;
    static final int CAUSES = 10;
    static final int COLLISIONS_0 = 11;
    static final int COLLISIONS_1 = 12;
    static final int MET = 13;
    static final int CHANCE = 14;
    static final int TIMER = 15;
    static final int SIGN = 16;
    static final int CAME_IN = 17;
    static final int WAITING = 18;
    static final int GATHERED = 19;
    static final int GATHERS_SECTOR = 20;

    private Machines() {
    }

    /** A new machine with these bytes at the place where the processor begins. */
    static PictureMachine withProgram(int... program) {
        PictureMachine machine = new PictureMachine();
        pokeAll(machine, PROGRAM, program);
        return machine;
    }

    /** A new machine whose processor does NOP and JMP for ever. */
    static PictureMachine idle() {
        return withProgram(0xEA, 0x4C, 0x00, 0x02);
    }

    static void pokeAll(PictureMachine machine, int from, int... bytes) {
        for (int i = 0; i < bytes.length; i++) {
            machine.poke(from + i, bytes[i]);
        }
    }

    static void pokeNops(PictureMachine machine, int from, int count) {
        for (int i = 0; i < count; i++) {
            machine.poke(from + i, 0xEA);
        }
    }

    /** Lets time go by until a cycle of a line of the present frame (or the next, if it is past) comes next. */
    static void runTo(PictureMachine machine, int line, int cycle) {
        int now = 24 * machine.state(LINE) + machine.state(CYCLE);
        machine.run(Math.floorMod(24 * line + cycle - now, 384));
    }

    static void send(PictureMachine machine, int... bytes) {
        for (int b : bytes) {
            machine.write(23, b);
        }
    }

    /** The sum as the drive makes it. */
    static int sum(int... bytes) {
        int sum = 0;
        for (int b : bytes) {
            sum += b;
            if (sum > 255) {
                sum -= 255;
            }
        }
        return sum;
    }

    static void sendWithSum(PictureMachine machine, int... bytes) {
        send(machine, bytes);
        send(machine, sum(bytes));
    }

    /** All that processor and state answer, and some bytes and dots: few enough calls for the 512 of an object. */
    static String seen(PictureMachine machine) {
        StringBuilder seen = new StringBuilder();
        for (int what = 0; what <= 9; what++) {
            seen.append(machine.processor(what)).append(' ');
        }
        for (int what = 0; what <= 20; what++) {
            seen.append(machine.state(what)).append(' ');
        }
        for (int a : new int[] {0, 255, 256, 511, 512, 767}) {
            seen.append(machine.peek(a)).append(' ');
        }
        for (int sector = 1; sector <= 8; sector += 7) {
            seen.append(machine.sector(sector, 0)).append(' ').append(machine.sector(sector, 7)).append(' ');
        }
        seen.append(machine.dot(1, 0)).append(' ').append(machine.dot(12, 31));
        return seen.toString();
    }
}
